/-! The law's cases -/
theorem lc_tables {L : Nat} {xs : Nat → Int32} {d rc rs K i : Nat} {s : cs_S} {hp : az_Hp} {Q : Option Value → az_Hp → Prop} (hd : 81 ≤ d) (hi : i + 6 ≤ L) (hL : L ≤ 3072) (hC : cs hp s K) (hM : mm hp s) (hK : K ≤ 32768 ∧ ∃ j, K = 2 ^ j) (hrc : 907 ≤ rc) (hrs : 1011 + 4 * (32768 - K) ≤ rs) (kk : ∀ h' s' K' rs', cs h' s' K' → mm h' s' → (K' ≤ 32768 ∧ ∃ j, K' = 2 ^ j) → (K ≤ K' ∧ rs ≤ rs' + 1011 + 4 * (K' - K)) → al_W L xs mL_law d (rc - 907) rs' 1634 [(0, .retAddr 45), (1, .ref 0), (2, .ref 64), (3, .int (nI i))] [] h' Q) : al_W L xs mL_law d rc rs 1192 [(0, .retAddr 45), (1, .ref 0), (2, .ref 64), (3, .int (nI i))] [] hp Q := by
  obtain ⟨fs, h0⟩ := hC.o
  refine al_aload_n dL_law_1192 ?_
  refine al_aload_nS dL_law_1193 ?_
  refine al_iload_n dL_law_1194 ?_
  refine al_iconst (v := nI 1) dL_law_1195 ?_
  refine al_iaddN dL_law_1196 ?_
  refine al_sld (j := i + 1) dL_law_1197 ?_
  refine al_aload_nS dL_law_1198 ?_
  refine al_iload_n dL_law_1199 ?_
  refine al_iconst (v := nI 2) dL_law_1200 ?_
  refine al_iaddN dL_law_1201 ?_
  refine al_sld (j := i + 2) dL_law_1202 ?_
  refine al_cV0 (st := []) dL_law_1203 ml_L_137 h0 (az_M.post ?_ (P_tables (d := d - 1) (x := xs (i + 1)) (xi := xs (i + 2)) (by omega) hC)) (by omega)
  intro o h1 ⟨s1, j1, c1, f1⟩
  obtain ⟨y, rfl⟩ := V_tables j1
  have hM1 := hM.fz f1
  obtain ⟨fs2, h64⟩ := hM1.o
  refine al_aload_n dL_law_1206 ?_
  refine al_aload_nS dL_law_1207 ?_
  refine al_iload_n dL_law_1208 ?_
  refine al_iconst (v := nI 1) dL_law_1209 ?_
  refine al_iaddN dL_law_1210 ?_
  refine al_sld (j := i + 1) dL_law_1211 ?_
  refine al_aload_nS dL_law_1212 ?_
  refine al_iload_n dL_law_1213 ?_
  refine al_iconst (v := nI 2) dL_law_1214 ?_
  refine al_iaddN dL_law_1215 ?_
  refine al_sld (j := i + 2) dL_law_1216 ?_
  refine al_cV0 (st := [.int y]) dL_law_1217 ml_L_140 h64 (az_M.post ?_ (Q_tables (d := d - 1) (x := xs (i + 1)) (xi := xs (i + 2)) (by omega) hC.ok hM1)) (by omega)
  intro o2 h2 ⟨s2, j2, m2, f2⟩
  obtain ⟨e1, e2⟩ := D_tables hC.ok hM.tl j1 j2
  subst e1
  subst e2
  exact al_icmp_eq (tgt := 1634) dL_law_1220 (fun _ => al_W.room (by omega) (Nat.le_refl _) (kk h2 s1 K rs (c1.fz f2) m2 hK (by omega))) (fun c => absurd rfl c)
theorem lc_moons {L : Nat} {xs : Nat → Int32} {d rc rs K i : Nat} {s : cs_S} {hp : az_Hp} {Q : Option Value → az_Hp → Prop} (hd : 81 ≤ d) (hi : i + 6 ≤ L) (hL : L ≤ 3072) (hC : cs hp s K) (hM : mm hp s) (hK : K ≤ 32768 ∧ ∃ j, K = 2 ^ j) (hrc : 907 ≤ rc) (hrs : 1011 + 4 * (32768 - K) ≤ rs) (kk : ∀ h' s' K' rs', cs h' s' K' → mm h' s' → (K' ≤ 32768 ∧ ∃ j, K' = 2 ^ j) → (K ≤ K' ∧ rs ≤ rs' + 1011 + 4 * (K' - K)) → al_W L xs mL_law d (rc - 907) rs' 1634 [(0, .retAddr 45), (1, .ref 0), (2, .ref 64), (3, .int (nI i))] [] h' Q) : al_W L xs mL_law d rc rs 1225 [(0, .retAddr 45), (1, .ref 0), (2, .ref 64), (3, .int (nI i))] [] hp Q := by
  obtain ⟨fs, h0⟩ := hC.o
  refine al_aload_n dL_law_1225 ?_
  refine al_aload_nS dL_law_1226 ?_
  refine al_iload_n dL_law_1227 ?_
  refine al_iconst (v := nI 1) dL_law_1228 ?_
  refine al_iaddN dL_law_1229 ?_
  refine al_sld (j := i + 1) dL_law_1230 ?_
  refine al_cV0 (st := []) dL_law_1231 ml_L_141 h0 (az_M.post ?_ (P_moons (d := d - 1) (x := xs (i + 1)) (by omega) hC)) (by omega)
  intro o h1 ⟨s1, j1, c1, f1⟩
  obtain ⟨y, rfl⟩ := V_moons j1
  have hM1 := hM.fz f1
  obtain ⟨fs2, h64⟩ := hM1.o
  refine al_aload_n dL_law_1234 ?_
  refine al_aload_nS dL_law_1235 ?_
  refine al_iload_n dL_law_1236 ?_
  refine al_iconst (v := nI 1) dL_law_1237 ?_
  refine al_iaddN dL_law_1238 ?_
  refine al_sld (j := i + 1) dL_law_1239 ?_
  refine al_cV0 (st := [.int y]) dL_law_1240 ml_L_144 h64 (az_M.post ?_ (Q_moons (d := d - 1) (x := xs (i + 1)) (by omega) hC.ok hM1)) (by omega)
  intro o2 h2 ⟨s2, j2, m2, f2⟩
  obtain ⟨e1, e2⟩ := D_moons hC.ok hM.tl j1 j2
  subst e1
  subst e2
  exact al_icmp_eq (tgt := 1634) dL_law_1243 (fun _ => al_W.room (by omega) (Nat.le_refl _) (kk h2 s1 K rs (c1.fz f2) m2 hK (by omega))) (fun c => absurd rfl c)
theorem lc_attempt {L : Nat} {xs : Nat → Int32} {d rc rs K i : Nat} {s : cs_S} {hp : az_Hp} {Q : Option Value → az_Hp → Prop} (hd : 81 ≤ d) (hi : i + 6 ≤ L) (hL : L ≤ 3072) (hC : cs hp s K) (hM : mm hp s) (hK : K ≤ 32768 ∧ ∃ j, K = 2 ^ j) (hrc : 907 ≤ rc) (hrs : 1011 + 4 * (32768 - K) ≤ rs) (kk : ∀ h' s' K' rs', cs h' s' K' → mm h' s' → (K' ≤ 32768 ∧ ∃ j, K' = 2 ^ j) → (K ≤ K' ∧ rs ≤ rs' + 1011 + 4 * (K' - K)) → al_W L xs mL_law d (rc - 907) rs' 1634 [(0, .retAddr 45), (1, .ref 0), (2, .ref 64), (3, .int (nI i))] [] h' Q) : al_W L xs mL_law d rc rs 1248 [(0, .retAddr 45), (1, .ref 0), (2, .ref 64), (3, .int (nI i))] [] hp Q := by
  obtain ⟨fs, h0⟩ := hC.o
  refine al_aload_n dL_law_1248 ?_
  refine al_aload_nS dL_law_1249 ?_
  refine al_iload_n dL_law_1250 ?_
  refine al_iconst (v := nI 1) dL_law_1251 ?_
  refine al_iaddN dL_law_1252 ?_
  refine al_sld (j := i + 1) dL_law_1253 ?_
  obtain ⟨rs9, K9, hK9, hP9⟩ := P_attempt (d := d - 1) (x := xs (i + 1)) (by omega) hC
  have hK8 : K9 ≤ 32768 ∧ ∃ j, K9 = 2 ^ j := hK9.elim (fun q => q.1 ▸ hK) (fun q => q.2.2)
  have hR9 : K ≤ K9 ∧ rs9 ≤ 4 * (K9 - K) := (by
    rcases hK9 with ⟨q1, q2⟩ | ⟨q1, q2, -, b, q3⟩
    · omega
    · obtain ⟨a, q4⟩ := hK.2
      have q5 := pw2 (q4 ▸ q3 ▸ q1)
      rw [← q3, ← q4] at q5
      omega)
  refine al_cV (mc := 2) (ms := rs9) (st := []) dL_law_1254 ml_L_145 h0 (az_M.post ?_ hP9) (by omega) rfl rfl (by exact Nat.le_of_ble_eq_true rfl) (by omega) (by omega)
  intro o h1 ⟨s1, j1, c1, f1⟩
  obtain ⟨y, rfl⟩ := V_attempt j1
  have hM1 := hM.fz f1
  obtain ⟨fs2, h64⟩ := hM1.o
  refine al_aload_n dL_law_1257 ?_
  refine al_aload_nS dL_law_1258 ?_
  refine al_iload_n dL_law_1259 ?_
  refine al_iconst (v := nI 1) dL_law_1260 ?_
  refine al_iaddN dL_law_1261 ?_
  refine al_sld (j := i + 1) dL_law_1262 ?_
  refine al_cV0 (st := [.int y]) dL_law_1263 ml_L_148 h64 (az_M.post ?_ (Q_attempt (d := d - 1) (x := xs (i + 1)) (by omega) hC.ok hM1)) (by omega)
  intro o2 h2 ⟨s2, j2, m2, f2⟩
  obtain ⟨e1, e2⟩ := D_attempt hC.ok hM.tl j1 j2
  subst e1
  subst e2
  exact al_icmp_eq (tgt := 1634) dL_law_1266 (fun _ => al_W.room (by omega) (Nat.le_refl _) (kk h2 s1 K9 (rs - rs9) (c1.fz f2) m2 hK8 (by omega))) (fun c => absurd rfl c)
theorem lc_turned {L : Nat} {xs : Nat → Int32} {d rc rs K i : Nat} {s : cs_S} {hp : az_Hp} {Q : Option Value → az_Hp → Prop} (hd : 81 ≤ d) (hi : i + 6 ≤ L) (hL : L ≤ 3072) (hC : cs hp s K) (hM : mm hp s) (hK : K ≤ 32768 ∧ ∃ j, K = 2 ^ j) (hrc : 907 ≤ rc) (hrs : 1011 + 4 * (32768 - K) ≤ rs) (kk : ∀ h' s' K' rs', cs h' s' K' → mm h' s' → (K' ≤ 32768 ∧ ∃ j, K' = 2 ^ j) → (K ≤ K' ∧ rs ≤ rs' + 1011 + 4 * (K' - K)) → al_W L xs mL_law d (rc - 907) rs' 1634 [(0, .retAddr 45), (1, .ref 0), (2, .ref 64), (3, .int (nI i))] [] h' Q) : al_W L xs mL_law d rc rs 1271 [(0, .retAddr 45), (1, .ref 0), (2, .ref 64), (3, .int (nI i))] [] hp Q := by
  obtain ⟨fs, h0⟩ := hC.o
  refine al_aload_n dL_law_1271 ?_
  refine al_aload_nS dL_law_1272 ?_
  refine al_iload_n dL_law_1273 ?_
  refine al_iconst (v := nI 1) dL_law_1274 ?_
  refine al_iaddN dL_law_1275 ?_
  refine al_sld (j := i + 1) dL_law_1276 ?_
  refine al_cV0 (st := []) dL_law_1277 ml_L_149 h0 (az_M.post ?_ (P_turned (d := d - 1) (xk := xs (i + 1)) (by omega) hC)) (by omega)
  intro o h1 ⟨s1, j1, c1, f1⟩
  obtain ⟨y, rfl⟩ := V_turned j1
  have hM1 := hM.fz f1
  obtain ⟨fs2, h64⟩ := hM1.o
  refine al_aload_n dL_law_1280 ?_
  refine al_aload_nS dL_law_1281 ?_
  refine al_iload_n dL_law_1282 ?_
  refine al_iconst (v := nI 1) dL_law_1283 ?_
  refine al_iaddN dL_law_1284 ?_
  refine al_sld (j := i + 1) dL_law_1285 ?_
  refine al_cV0 (st := [.long y]) dL_law_1286 ml_L_152 h64 (az_M.post ?_ (Q_turned (d := d - 1) (xk := xs (i + 1)) (by omega) hC.ok hM1)) (by omega)
  intro o2 h2 ⟨s2, j2, m2, f2⟩
  obtain ⟨e1, e2⟩ := D_turned hC.ok hM.tl j1 j2
  subst e1
  subst e2
  exact al_lcmp_eq (tgt := 1634) dL_law_1289 dL_law_1290 (fun _ => al_W.room (by omega) (Nat.le_refl _) (kk h2 s1 K rs (c1.fz f2) m2 hK (by omega))) (fun c => absurd rfl c)
theorem lc_best {L : Nat} {xs : Nat → Int32} {d rc rs K i : Nat} {s : cs_S} {hp : az_Hp} {Q : Option Value → az_Hp → Prop} (hd : 81 ≤ d) (hi : i + 6 ≤ L) (hL : L ≤ 3072) (hC : cs hp s K) (hM : mm hp s) (hK : K ≤ 32768 ∧ ∃ j, K = 2 ^ j) (hrc : 907 ≤ rc) (hrs : 1011 + 4 * (32768 - K) ≤ rs) (kk : ∀ h' s' K' rs', cs h' s' K' → mm h' s' → (K' ≤ 32768 ∧ ∃ j, K' = 2 ^ j) → (K ≤ K' ∧ rs ≤ rs' + 1011 + 4 * (K' - K)) → al_W L xs mL_law d (rc - 907) rs' 1634 [(0, .retAddr 45), (1, .ref 0), (2, .ref 64), (3, .int (nI i))] [] h' Q) : al_W L xs mL_law d rc rs 1295 [(0, .retAddr 45), (1, .ref 0), (2, .ref 64), (3, .int (nI i))] [] hp Q := by
  obtain ⟨fs, h0⟩ := hC.o
  refine al_aload_n dL_law_1295 ?_
  refine al_aload_nS dL_law_1296 ?_
  refine al_iload_n dL_law_1297 ?_
  refine al_iconst (v := nI 1) dL_law_1298 ?_
  refine al_iaddN dL_law_1299 ?_
  refine al_sld (j := i + 1) dL_law_1300 ?_
  refine al_cV0 (st := []) dL_law_1301 ml_L_153 h0 (az_M.post ?_ (P_best (d := d - 1) (xk := xs (i + 1)) (by omega) hC)) (by omega)
  intro o h1 ⟨s1, j1, c1, f1⟩
  obtain ⟨y, rfl⟩ := V_best j1
  have hM1 := hM.fz f1
  obtain ⟨fs2, h64⟩ := hM1.o
  refine al_aload_n dL_law_1304 ?_
  refine al_aload_nS dL_law_1305 ?_
  refine al_iload_n dL_law_1306 ?_
  refine al_iconst (v := nI 1) dL_law_1307 ?_
  refine al_iaddN dL_law_1308 ?_
  refine al_sld (j := i + 1) dL_law_1309 ?_
  refine al_cV0 (st := [.int y]) dL_law_1310 ml_L_156 h64 (az_M.post ?_ (Q_best (d := d - 1) (xk := xs (i + 1)) (by omega) hC.ok hM1)) (by omega)
  intro o2 h2 ⟨s2, j2, m2, f2⟩
  obtain ⟨e1, e2⟩ := D_best hC.ok hM.tl j1 j2
  subst e1
  subst e2
  exact al_icmp_eq (tgt := 1634) dL_law_1313 (fun _ => al_W.room (by omega) (Nat.le_refl _) (kk h2 s1 K rs (c1.fz f2) m2 hK (by omega))) (fun c => absurd rfl c)
theorem lc_chance {L : Nat} {xs : Nat → Int32} {d rc rs K i : Nat} {s : cs_S} {hp : az_Hp} {Q : Option Value → az_Hp → Prop} (hd : 81 ≤ d) (hi : i + 6 ≤ L) (hL : L ≤ 3072) (hC : cs hp s K) (hM : mm hp s) (hK : K ≤ 32768 ∧ ∃ j, K = 2 ^ j) (hrc : 907 ≤ rc) (hrs : 1011 + 4 * (32768 - K) ≤ rs) (kk : ∀ h' s' K' rs', cs h' s' K' → mm h' s' → (K' ≤ 32768 ∧ ∃ j, K' = 2 ^ j) → (K ≤ K' ∧ rs ≤ rs' + 1011 + 4 * (K' - K)) → al_W L xs mL_law d (rc - 907) rs' 1634 [(0, .retAddr 45), (1, .ref 0), (2, .ref 64), (3, .int (nI i))] [] h' Q) : al_W L xs mL_law d rc rs 1318 [(0, .retAddr 45), (1, .ref 0), (2, .ref 64), (3, .int (nI i))] [] hp Q := by
  obtain ⟨fs, h0⟩ := hC.o
  refine al_aload_n dL_law_1318 ?_
  refine al_aload_nS dL_law_1319 ?_
  refine al_iload_n dL_law_1320 ?_
  refine al_iconst (v := nI 1) dL_law_1321 ?_
  refine al_iaddN dL_law_1322 ?_
  refine al_sld (j := i + 1) dL_law_1323 ?_
  refine al_aload_nS dL_law_1324 ?_
  refine al_iload_n dL_law_1325 ?_
  refine al_iconst (v := nI 2) dL_law_1326 ?_
  refine al_iaddN dL_law_1327 ?_
  refine al_sld (j := i + 2) dL_law_1328 ?_
  refine al_cV0 (st := []) dL_law_1329 ml_L_157 h0 (az_M.post ?_ (P_chance (d := d - 1) (xn := xs (i + 1)) (xw := xs (i + 2)) (by omega) hC)) (by omega)
  intro o h1 ⟨s1, j1, c1, f1⟩
  obtain ⟨y, rfl⟩ := V_chance j1
  have hM1 := hM.fz f1
  obtain ⟨fs2, h64⟩ := hM1.o
  refine al_aload_n dL_law_1332 ?_
  refine al_aload_nS dL_law_1333 ?_
  refine al_iload_n dL_law_1334 ?_
  refine al_iconst (v := nI 1) dL_law_1335 ?_
  refine al_iaddN dL_law_1336 ?_
  refine al_sld (j := i + 1) dL_law_1337 ?_
  refine al_aload_nS dL_law_1338 ?_
  refine al_iload_n dL_law_1339 ?_
  refine al_iconst (v := nI 2) dL_law_1340 ?_
  refine al_iaddN dL_law_1341 ?_
  refine al_sld (j := i + 2) dL_law_1342 ?_
  refine al_cV0 (st := [.int y]) dL_law_1343 ml_L_160 h64 (az_M.post ?_ (Q_chance (d := d - 1) (xn := xs (i + 1)) (xw := xs (i + 2)) (by omega) hC.ok hM1)) (by omega)
  intro o2 h2 ⟨s2, j2, m2, f2⟩
  obtain ⟨e1, e2⟩ := D_chance hC.ok hM.tl j1 j2
  subst e1
  subst e2
  exact al_icmp_eq (tgt := 1634) dL_law_1346 (fun _ => al_W.room (by omega) (Nat.le_refl _) (kk h2 s1 K rs (c1.fz f2) m2 hK (by omega))) (fun c => absurd rfl c)
theorem lc_mean {L : Nat} {xs : Nat → Int32} {d rc rs K i : Nat} {s : cs_S} {hp : az_Hp} {Q : Option Value → az_Hp → Prop} (hd : 81 ≤ d) (hi : i + 6 ≤ L) (hL : L ≤ 3072) (hC : cs hp s K) (hM : mm hp s) (hK : K ≤ 32768 ∧ ∃ j, K = 2 ^ j) (hrc : 907 ≤ rc) (hrs : 1011 + 4 * (32768 - K) ≤ rs) (kk : ∀ h' s' K' rs', cs h' s' K' → mm h' s' → (K' ≤ 32768 ∧ ∃ j, K' = 2 ^ j) → (K ≤ K' ∧ rs ≤ rs' + 1011 + 4 * (K' - K)) → al_W L xs mL_law d (rc - 907) rs' 1634 [(0, .retAddr 45), (1, .ref 0), (2, .ref 64), (3, .int (nI i))] [] h' Q) : al_W L xs mL_law d rc rs 1351 [(0, .retAddr 45), (1, .ref 0), (2, .ref 64), (3, .int (nI i))] [] hp Q := by
  obtain ⟨fs, h0⟩ := hC.o
  refine al_aload_n dL_law_1351 ?_
  refine al_aload_nS dL_law_1352 ?_
  refine al_iload_n dL_law_1353 ?_
  refine al_iconst (v := nI 1) dL_law_1354 ?_
  refine al_iaddN dL_law_1355 ?_
  refine al_sld (j := i + 1) dL_law_1356 ?_
  refine al_aload_nS dL_law_1357 ?_
  refine al_iload_n dL_law_1358 ?_
  refine al_iconst (v := nI 2) dL_law_1359 ?_
  refine al_iaddN dL_law_1360 ?_
  refine al_sld (j := i + 2) dL_law_1361 ?_
  refine al_cV0 (st := []) dL_law_1362 ml_L_161 h0 (az_M.post ?_ (P_mean (d := d - 1) (xn := xs (i + 1)) (xw := xs (i + 2)) (by omega) hC)) (by omega)
  intro o h1 ⟨s1, j1, c1, f1⟩
  obtain ⟨y, rfl⟩ := V_mean j1
  have hM1 := hM.fz f1
  obtain ⟨fs2, h64⟩ := hM1.o
  refine al_aload_n dL_law_1365 ?_
  refine al_aload_nS dL_law_1366 ?_
  refine al_iload_n dL_law_1367 ?_
  refine al_iconst (v := nI 1) dL_law_1368 ?_
  refine al_iaddN dL_law_1369 ?_
  refine al_sld (j := i + 1) dL_law_1370 ?_
  refine al_aload_nS dL_law_1371 ?_
  refine al_iload_n dL_law_1372 ?_
  refine al_iconst (v := nI 2) dL_law_1373 ?_
  refine al_iaddN dL_law_1374 ?_
  refine al_sld (j := i + 2) dL_law_1375 ?_
  refine al_cV0 (st := [.long y]) dL_law_1376 ml_L_165 h64 (az_M.post ?_ (Q_mean (d := d - 1) (xn := xs (i + 1)) (xw := xs (i + 2)) (by omega) hC.ok hM1)) (by omega)
  intro o2 h2 ⟨s2, j2, m2, f2⟩
  obtain ⟨e1, e2⟩ := D_mean hC.ok hM.tl j1 j2
  subst e1
  subst e2
  exact al_lcmp_eq (tgt := 1634) dL_law_1379 dL_law_1380 (fun _ => al_W.room (by omega) (Nat.le_refl _) (kk h2 s1 K rs (c1.fz f2) m2 hK (by omega))) (fun c => absurd rfl c)
theorem lc_numbers {L : Nat} {xs : Nat → Int32} {d rc rs K i : Nat} {s : cs_S} {hp : az_Hp} {Q : Option Value → az_Hp → Prop} (hd : 81 ≤ d) (hi : i + 6 ≤ L) (hL : L ≤ 3072) (hC : cs hp s K) (hM : mm hp s) (hK : K ≤ 32768 ∧ ∃ j, K = 2 ^ j) (hrc : 907 ≤ rc) (hrs : 1011 + 4 * (32768 - K) ≤ rs) (kk : ∀ h' s' K' rs', cs h' s' K' → mm h' s' → (K' ≤ 32768 ∧ ∃ j, K' = 2 ^ j) → (K ≤ K' ∧ rs ≤ rs' + 1011 + 4 * (K' - K)) → al_W L xs mL_law d (rc - 907) rs' 1634 [(0, .retAddr 45), (1, .ref 0), (2, .ref 64), (3, .int (nI i))] [] h' Q) : al_W L xs mL_law d rc rs 1385 [(0, .retAddr 45), (1, .ref 0), (2, .ref 64), (3, .int (nI i))] [] hp Q := by
  obtain ⟨fs, h0⟩ := hC.o
  refine al_aload_n dL_law_1385 ?_
  refine al_aload_nS dL_law_1386 ?_
  refine al_iload_n dL_law_1387 ?_
  refine al_iconst (v := nI 1) dL_law_1388 ?_
  refine al_iaddN dL_law_1389 ?_
  refine al_sld (j := i + 1) dL_law_1390 ?_
  refine al_aload_nS dL_law_1391 ?_
  refine al_iload_n dL_law_1392 ?_
  refine al_iconst (v := nI 2) dL_law_1393 ?_
  refine al_iaddN dL_law_1394 ?_
  refine al_sld (j := i + 2) dL_law_1395 ?_
  refine al_aload_nS dL_law_1396 ?_
  refine al_iload_n dL_law_1397 ?_
  refine al_iconst (v := nI 3) dL_law_1398 ?_
  refine al_iaddN dL_law_1399 ?_
  refine al_sld (j := i + 3) dL_law_1400 ?_
  refine al_cV0 (st := []) dL_law_1401 ml_L_166 h0 (az_M.post ?_ (P_numbers (d := d - 1) (x := xs (i + 1)) (xs := xs (i + 2)) (xn := xs (i + 3)) (by omega) hC)) (by omega)
  intro o h1 ⟨s1, j1, c1, f1⟩
  obtain ⟨y, rfl⟩ := V_numbers j1
  have hM1 := hM.fz f1
  obtain ⟨fs2, h64⟩ := hM1.o
  refine al_aload_n dL_law_1404 ?_
  refine al_aload_nS dL_law_1405 ?_
  refine al_iload_n dL_law_1406 ?_
  refine al_iconst (v := nI 1) dL_law_1407 ?_
  refine al_iaddN dL_law_1408 ?_
  refine al_sld (j := i + 1) dL_law_1409 ?_
  refine al_aload_nS dL_law_1410 ?_
  refine al_iload_n dL_law_1411 ?_
  refine al_iconst (v := nI 2) dL_law_1412 ?_
  refine al_iaddN dL_law_1413 ?_
  refine al_sld (j := i + 2) dL_law_1414 ?_
  refine al_aload_nS dL_law_1415 ?_
  refine al_iload_n dL_law_1416 ?_
  refine al_iconst (v := nI 3) dL_law_1417 ?_
  refine al_iaddN dL_law_1418 ?_
  refine al_sld (j := i + 3) dL_law_1419 ?_
  refine al_cV0 (st := [.int y]) dL_law_1420 ml_L_169 h64 (az_M.post ?_ (Q_numbers (d := d - 1) (x := xs (i + 1)) (xs := xs (i + 2)) (xn := xs (i + 3)) (by omega) hC.ok hM1)) (by omega)
  intro o2 h2 ⟨s2, j2, m2, f2⟩
  obtain ⟨e1, e2⟩ := D_numbers hC.ok hM.tl j1 j2
  subst e1
  subst e2
  exact al_icmp_eq (tgt := 1634) dL_law_1423 (fun _ => al_W.room (by omega) (Nat.le_refl _) (kk h2 s1 K rs (c1.fz f2) m2 hK (by omega))) (fun c => absurd rfl c)
theorem lc_write {L : Nat} {xs : Nat → Int32} {d rc rs K i : Nat} {s : cs_S} {hp : az_Hp} {Q : Option Value → az_Hp → Prop} (hd : 81 ≤ d) (hi : i + 6 ≤ L) (hL : L ≤ 3072) (hC : cs hp s K) (hM : mm hp s) (hK : K ≤ 32768 ∧ ∃ j, K = 2 ^ j) (hrc : 907 ≤ rc) (hrs : 1011 + 4 * (32768 - K) ≤ rs) (kk : ∀ h' s' K' rs', cs h' s' K' → mm h' s' → (K' ≤ 32768 ∧ ∃ j, K' = 2 ^ j) → (K ≤ K' ∧ rs ≤ rs' + 1011 + 4 * (K' - K)) → al_W L xs mL_law d (rc - 907) rs' 1634 [(0, .retAddr 45), (1, .ref 0), (2, .ref 64), (3, .int (nI i))] [] h' Q) : al_W L xs mL_law d rc rs 1428 [(0, .retAddr 45), (1, .ref 0), (2, .ref 64), (3, .int (nI i))] [] hp Q := by
  obtain ⟨fs, h0⟩ := hC.o
  refine al_aload_n dL_law_1428 ?_
  refine al_aload_nS dL_law_1429 ?_
  refine al_iload_n dL_law_1430 ?_
  refine al_iconst (v := nI 1) dL_law_1431 ?_
  refine al_iaddN dL_law_1432 ?_
  refine al_sld (j := i + 1) dL_law_1433 ?_
  refine al_aload_nS dL_law_1434 ?_
  refine al_iload_n dL_law_1435 ?_
  refine al_iconst (v := nI 2) dL_law_1436 ?_
  refine al_iaddN dL_law_1437 ?_
  refine al_sld (j := i + 2) dL_law_1438 ?_
  refine al_aload_nS dL_law_1439 ?_
  refine al_iload_n dL_law_1440 ?_
  refine al_iconst (v := nI 3) dL_law_1441 ?_
  refine al_iaddN dL_law_1442 ?_
  refine al_sld (j := i + 3) dL_law_1443 ?_
  refine al_i2l dL_law_1444 ?_
  refine al_bipush (v := nI 32) dL_law_1445 ?_
  refine al_lshl dL_law_1447 ?_
  refine al_aload_nS dL_law_1448 ?_
  refine al_iload_n dL_law_1449 ?_
  refine al_iconst (v := nI 4) dL_law_1450 ?_
  refine al_iaddN dL_law_1451 ?_
  refine al_sld (j := i + 4) dL_law_1452 ?_
  refine al_i2l dL_law_1453 ?_
  refine al_ldc2 dL_law_1454 cn_L_42 ?_
  refine al_land dL_law_1457 ?_
  refine al_lor dL_law_1458 ?_
  refine al_cV0 (st := []) dL_law_1459 ml_L_170 h0 (az_M.post ?_ (P_write (d := d - 1) (x := xs (i + 1)) (xi := xs (i + 2)) (xv := (((xs (i + 3)).toInt64 <<< ((nI 32).toInt64 &&& 63)) ||| ((xs (i + 4)).toInt64 &&& (4294967295)))) (by omega) hC)) (by omega)
  intro o h1 ⟨s1, j1, c1, f1⟩
  obtain ⟨y, rfl⟩ := V_write j1
  have hM1 := hM.fz f1
  obtain ⟨fs2, h64⟩ := hM1.o
  refine al_aload_n dL_law_1462 ?_
  refine al_aload_nS dL_law_1463 ?_
  refine al_iload_n dL_law_1464 ?_
  refine al_iconst (v := nI 1) dL_law_1465 ?_
  refine al_iaddN dL_law_1466 ?_
  refine al_sld (j := i + 1) dL_law_1467 ?_
  refine al_aload_nS dL_law_1468 ?_
  refine al_iload_n dL_law_1469 ?_
  refine al_iconst (v := nI 2) dL_law_1470 ?_
  refine al_iaddN dL_law_1471 ?_
  refine al_sld (j := i + 2) dL_law_1472 ?_
  refine al_aload_nS dL_law_1473 ?_
  refine al_iload_n dL_law_1474 ?_
  refine al_iconst (v := nI 3) dL_law_1475 ?_
  refine al_iaddN dL_law_1476 ?_
  refine al_sld (j := i + 3) dL_law_1477 ?_
  refine al_i2l dL_law_1478 ?_
  refine al_bipush (v := nI 32) dL_law_1479 ?_
  refine al_lshl dL_law_1481 ?_
  refine al_aload_nS dL_law_1482 ?_
  refine al_iload_n dL_law_1483 ?_
  refine al_iconst (v := nI 4) dL_law_1484 ?_
  refine al_iaddN dL_law_1485 ?_
  refine al_sld (j := i + 4) dL_law_1486 ?_
  refine al_i2l dL_law_1487 ?_
  refine al_ldc2 dL_law_1488 cn_L_42 ?_
  refine al_land dL_law_1491 ?_
  refine al_lor dL_law_1492 ?_
  refine al_cV0 (st := [.long y]) dL_law_1493 ml_L_174 h64 (az_M.post ?_ (Q_write (d := d - 1) (x := xs (i + 1)) (xi := xs (i + 2)) (xv := (((xs (i + 3)).toInt64 <<< ((nI 32).toInt64 &&& 63)) ||| ((xs (i + 4)).toInt64 &&& (4294967295)))) (by omega) hC.ok hM1)) (by omega)
  intro o2 h2 ⟨s2, j2, m2, f2⟩
  obtain ⟨e1, e2⟩ := D_write hC.ok hM.tl j1 j2
  subst e1
  subst e2
  exact al_lcmp_eq (tgt := 1634) dL_law_1496 dL_law_1497 (fun _ => al_W.room (by omega) (Nat.le_refl _) (kk h2 s1 K rs (c1.fz f2) m2 hK (by omega))) (fun c => absurd rfl c)
theorem lc_lists {L : Nat} {xs : Nat → Int32} {d rc rs K i : Nat} {s : cs_S} {hp : az_Hp} {Q : Option Value → az_Hp → Prop} (hd : 81 ≤ d) (hi : i + 6 ≤ L) (hL : L ≤ 3072) (hC : cs hp s K) (hM : mm hp s) (hK : K ≤ 32768 ∧ ∃ j, K = 2 ^ j) (hrc : 907 ≤ rc) (hrs : 1011 + 4 * (32768 - K) ≤ rs) (kk : ∀ h' s' K' rs', cs h' s' K' → mm h' s' → (K' ≤ 32768 ∧ ∃ j, K' = 2 ^ j) → (K ≤ K' ∧ rs ≤ rs' + 1011 + 4 * (K' - K)) → al_W L xs mL_law d (rc - 907) rs' 1634 [(0, .retAddr 45), (1, .ref 0), (2, .ref 64), (3, .int (nI i))] [] h' Q) : al_W L xs mL_law d rc rs 1502 [(0, .retAddr 45), (1, .ref 0), (2, .ref 64), (3, .int (nI i))] [] hp Q := by
  obtain ⟨fs, h0⟩ := hC.o
  refine al_aload_n dL_law_1502 ?_
  refine al_aload_nS dL_law_1503 ?_
  refine al_iload_n dL_law_1504 ?_
  refine al_iconst (v := nI 1) dL_law_1505 ?_
  refine al_iaddN dL_law_1506 ?_
  refine al_sld (j := i + 1) dL_law_1507 ?_
  refine al_aload_nS dL_law_1508 ?_
  refine al_iload_n dL_law_1509 ?_
  refine al_iconst (v := nI 2) dL_law_1510 ?_
  refine al_iaddN dL_law_1511 ?_
  refine al_sld (j := i + 2) dL_law_1512 ?_
  refine al_i2l dL_law_1513 ?_
  refine al_bipush (v := nI 32) dL_law_1514 ?_
  refine al_lshl dL_law_1516 ?_
  refine al_aload_nS dL_law_1517 ?_
  refine al_iload_n dL_law_1518 ?_
  refine al_iconst (v := nI 3) dL_law_1519 ?_
  refine al_iaddN dL_law_1520 ?_
  refine al_sld (j := i + 3) dL_law_1521 ?_
  refine al_i2l dL_law_1522 ?_
  refine al_ldc2 dL_law_1523 cn_L_42 ?_
  refine al_land dL_law_1526 ?_
  refine al_lor dL_law_1527 ?_
  refine al_cV0 (st := []) dL_law_1528 ml_L_175 h0 (az_M.post ?_ (P_lists (d := d - 1) (x := xs (i + 1)) (xp := (((xs (i + 2)).toInt64 <<< ((nI 32).toInt64 &&& 63)) ||| ((xs (i + 3)).toInt64 &&& (4294967295)))) (by omega) hC)) (by omega)
  intro o h1 ⟨s1, j1, c1, f1⟩
  obtain ⟨y, rfl⟩ := V_lists j1
  have hM1 := hM.fz f1
  obtain ⟨fs2, h64⟩ := hM1.o
  refine al_aload_n dL_law_1531 ?_
  refine al_aload_nS dL_law_1532 ?_
  refine al_iload_n dL_law_1533 ?_
  refine al_iconst (v := nI 1) dL_law_1534 ?_
  refine al_iaddN dL_law_1535 ?_
  refine al_sld (j := i + 1) dL_law_1536 ?_
  refine al_aload_nS dL_law_1537 ?_
  refine al_iload_n dL_law_1538 ?_
  refine al_iconst (v := nI 2) dL_law_1539 ?_
  refine al_iaddN dL_law_1540 ?_
  refine al_sld (j := i + 2) dL_law_1541 ?_
  refine al_i2l dL_law_1542 ?_
  refine al_bipush (v := nI 32) dL_law_1543 ?_
  refine al_lshl dL_law_1545 ?_
  refine al_aload_nS dL_law_1546 ?_
  refine al_iload_n dL_law_1547 ?_
  refine al_iconst (v := nI 3) dL_law_1548 ?_
  refine al_iaddN dL_law_1549 ?_
  refine al_sld (j := i + 3) dL_law_1550 ?_
  refine al_i2l dL_law_1551 ?_
  refine al_ldc2 dL_law_1552 cn_L_42 ?_
  refine al_land dL_law_1555 ?_
  refine al_lor dL_law_1556 ?_
  refine al_cV0 (st := [.int y]) dL_law_1557 ml_L_179 h64 (az_M.post ?_ (Q_lists (d := d - 1) (x := xs (i + 1)) (xp := (((xs (i + 2)).toInt64 <<< ((nI 32).toInt64 &&& 63)) ||| ((xs (i + 3)).toInt64 &&& (4294967295)))) (by omega) hC.ok hM1)) (by omega)
  intro o2 h2 ⟨s2, j2, m2, f2⟩
  obtain ⟨e1, e2⟩ := D_lists hC.ok hM.tl j1 j2
  subst e1
  subst e2
  exact al_icmp_eq (tgt := 1634) dL_law_1560 (fun _ => al_W.room (by omega) (Nat.le_refl _) (kk h2 s1 K rs (c1.fz f2) m2 hK (by omega))) (fun c => absurd rfl c)
theorem lc_image {L : Nat} {xs : Nat → Int32} {d rc rs K i : Nat} {s : cs_S} {hp : az_Hp} {Q : Option Value → az_Hp → Prop} (hd : 81 ≤ d) (hi : i + 6 ≤ L) (hL : L ≤ 3072) (hC : cs hp s K) (hM : mm hp s) (hK : K ≤ 32768 ∧ ∃ j, K = 2 ^ j) (hrc : 907 ≤ rc) (hrs : 1011 + 4 * (32768 - K) ≤ rs) (kk : ∀ h' s' K' rs', cs h' s' K' → mm h' s' → (K' ≤ 32768 ∧ ∃ j, K' = 2 ^ j) → (K ≤ K' ∧ rs ≤ rs' + 1011 + 4 * (K' - K)) → al_W L xs mL_law d (rc - 907) rs' 1634 [(0, .retAddr 45), (1, .ref 0), (2, .ref 64), (3, .int (nI i))] [] h' Q) : al_W L xs mL_law d rc rs 1565 [(0, .retAddr 45), (1, .ref 0), (2, .ref 64), (3, .int (nI i))] [] hp Q := by
  obtain ⟨fs, h0⟩ := hC.o
  refine al_aload_n dL_law_1565 ?_
  refine al_aload_nS dL_law_1566 ?_
  refine al_iload_n dL_law_1567 ?_
  refine al_iconst (v := nI 1) dL_law_1568 ?_
  refine al_iaddN dL_law_1569 ?_
  refine al_sld (j := i + 1) dL_law_1570 ?_
  refine al_cV (mc := 8) (ms := 167) (st := []) dL_law_1571 ml_L_180 h0 (az_M.post ?_ (P_image (d := d - 1) (x := xs (i + 1)) (by omega) hC)) (by omega) rfl rfl (by exact Nat.le_of_ble_eq_true rfl) (by omega) (by omega)
  intro o h1 ⟨s1, j1, c1, f1⟩
  obtain ⟨y, rfl⟩ := V_image j1
  have hM1 := hM.fz f1
  obtain ⟨fs2, h64⟩ := hM1.o
  refine al_aload_n dL_law_1574 ?_
  refine al_aload_nS dL_law_1575 ?_
  refine al_iload_n dL_law_1576 ?_
  refine al_iconst (v := nI 1) dL_law_1577 ?_
  refine al_iaddN dL_law_1578 ?_
  refine al_sld (j := i + 1) dL_law_1579 ?_
  refine al_cV0 (st := [.int y]) dL_law_1580 ml_L_183 h64 (az_M.post ?_ (Q_image (d := d - 1) (x := xs (i + 1)) (by omega) hC.ok hM1)) (by omega)
  intro o2 h2 ⟨s2, j2, m2, f2⟩
  obtain ⟨e1, e2⟩ := D_image hC.ok hM.tl j1 j2
  subst e1
  subst e2
  exact al_icmp_eq (tgt := 1634) dL_law_1583 (fun _ => al_W.room (by omega) (Nat.le_refl _) (kk h2 s1 K (rs - 167) (c1.fz f2) m2 hK (by omega))) (fun c => absurd rfl c)
theorem lc_restore {L : Nat} {xs : Nat → Int32} {d rc rs K i : Nat} {s : cs_S} {hp : az_Hp} {Q : Option Value → az_Hp → Prop} (hd : 81 ≤ d) (hi : i + 6 ≤ L) (hL : L ≤ 3072) (hC : cs hp s K) (hM : mm hp s) (hK : K ≤ 32768 ∧ ∃ j, K = 2 ^ j) (hrc : 907 ≤ rc) (hrs : 1011 + 4 * (32768 - K) ≤ rs) (kk : ∀ h' s' K' rs', cs h' s' K' → mm h' s' → (K' ≤ 32768 ∧ ∃ j, K' = 2 ^ j) → (K ≤ K' ∧ rs ≤ rs' + 1011 + 4 * (K' - K)) → al_W L xs mL_law d (rc - 907) rs' 1634 [(0, .retAddr 45), (1, .ref 0), (2, .ref 64), (3, .int (nI i))] [] h' Q) : al_W L xs mL_law d rc rs 1588 [(0, .retAddr 45), (1, .ref 0), (2, .ref 64), (3, .int (nI i))] [] hp Q := by
  obtain ⟨fs, h0⟩ := hC.o
  refine al_aload_n dL_law_1588 ?_
  refine al_aload_nS dL_law_1589 ?_
  refine al_iload_n dL_law_1590 ?_
  refine al_iconst (v := nI 1) dL_law_1591 ?_
  refine al_iaddN dL_law_1592 ?_
  refine al_sld (j := i + 1) dL_law_1593 ?_
  refine al_cV0 (st := []) dL_law_1594 ml_L_184 h0 (az_M.post ?_ (P_restore (d := d - 1) (x := xs (i + 1)) (by omega) hC)) (by omega)
  intro o h1 ⟨s1, j1, c1, f1⟩
  obtain ⟨y, rfl⟩ := V_restore j1
  have hM1 := hM.fz f1
  obtain ⟨fs2, h64⟩ := hM1.o
  refine al_aload_n dL_law_1597 ?_
  refine al_aload_nS dL_law_1598 ?_
  refine al_iload_n dL_law_1599 ?_
  refine al_iconst (v := nI 1) dL_law_1600 ?_
  refine al_iaddN dL_law_1601 ?_
  refine al_sld (j := i + 1) dL_law_1602 ?_
  refine al_cV0 (st := [.int y]) dL_law_1603 ml_L_187 h64 (az_M.post ?_ (Q_restore (d := d - 1) (x := xs (i + 1)) (by omega) hC.ok hM1)) (by omega)
  intro o2 h2 ⟨s2, j2, m2, f2⟩
  obtain ⟨e1, e2⟩ := D_restore hC.ok hM.tl j1 j2
  subst e1
  subst e2
  exact al_icmp_eq (tgt := 1634) dL_law_1606 (fun _ => al_W.room (by omega) (Nat.le_refl _) (kk h2 s1 K rs (c1.fz f2) m2 hK (by omega))) (fun c => absurd rfl c)
theorem lc_told {L : Nat} {xs : Nat → Int32} {d rc rs K i : Nat} {s : cs_S} {hp : az_Hp} {Q : Option Value → az_Hp → Prop} (hd : 81 ≤ d) (hi : i + 6 ≤ L) (hL : L ≤ 3072) (hC : cs hp s K) (hM : mm hp s) (hK : K ≤ 32768 ∧ ∃ j, K = 2 ^ j) (hrc : 907 ≤ rc) (hrs : 1011 + 4 * (32768 - K) ≤ rs) (kk : ∀ h' s' K' rs', cs h' s' K' → mm h' s' → (K' ≤ 32768 ∧ ∃ j, K' = 2 ^ j) → (K ≤ K' ∧ rs ≤ rs' + 1011 + 4 * (K' - K)) → al_W L xs mL_law d (rc - 907) rs' 1634 [(0, .retAddr 45), (1, .ref 0), (2, .ref 64), (3, .int (nI i))] [] h' Q) : al_W L xs mL_law d rc rs 1611 [(0, .retAddr 45), (1, .ref 0), (2, .ref 64), (3, .int (nI i))] [] hp Q := by
  obtain ⟨fs, h0⟩ := hC.o
  refine al_aload_n dL_law_1611 ?_
  refine al_aload_nS dL_law_1612 ?_
  refine al_iload_n dL_law_1613 ?_
  refine al_iconst (v := nI 1) dL_law_1614 ?_
  refine al_iaddN dL_law_1615 ?_
  refine al_sld (j := i + 1) dL_law_1616 ?_
  refine al_cV0 (st := []) dL_law_1617 ml_L_188 h0 (az_M.post ?_ (P_told (d := d - 1) (x := xs (i + 1)) (by omega) hC)) (by omega)
  intro o h1 ⟨s1, j1, c1, f1⟩
  obtain ⟨y, rfl⟩ := V_told j1
  have hM1 := hM.fz f1
  obtain ⟨fs2, h64⟩ := hM1.o
  refine al_aload_n dL_law_1620 ?_
  refine al_aload_nS dL_law_1621 ?_
  refine al_iload_n dL_law_1622 ?_
  refine al_iconst (v := nI 1) dL_law_1623 ?_
  refine al_iaddN dL_law_1624 ?_
  refine al_sld (j := i + 1) dL_law_1625 ?_
  refine al_cV0 (st := [.int y]) dL_law_1626 ml_L_191 h64 (az_M.post ?_ (Q_told (d := d - 1) (x := xs (i + 1)) (by omega) hC.ok hM1)) (by omega)
  intro o2 h2 ⟨s2, j2, m2, f2⟩
  obtain ⟨e1, e2⟩ := D_told hC.ok hM.tl j1 j2
  subst e1
  subst e2
  exact al_icmp_eq (tgt := 1634) dL_law_1629 (fun _ => al_W.room (by omega) (Nat.le_refl _) (kk h2 s1 K rs (c1.fz f2) m2 hK (by omega))) (fun c => absurd rfl c)
