abbrev mX11_init : az_Me := (({ cls := "LetterNights", name := "<init>", desc := "()V" } : Jvm.MethodName), prog_1_method_1_code, 3, (none : Option FieldType))
theorem kX11_init : Cond.code mX11_init.1 mX11_init.2.1 mX11_init.2.2.1 mX11_init.2.2.2 ∈ az_tbl := tw_26
abbrev mK_Object_init___V : az_Me := (({ cls := "java/lang/Object", name := "<init>", desc := "()V" } : Jvm.MethodName), object_method_1_code, 1, (none : Option FieldType))
theorem kK_Object_init___V : Cond.code mK_Object_init___V.1 mK_Object_init___V.2.1 mK_Object_init___V.2.2.1 mK_Object_init___V.2.2.2 ∈ az_tbl := tw_29
abbrev mX5_init : az_Me := (({ cls := "LetterNights$Reader", name := "<init>", desc := "()V" } : Jvm.MethodName), prog_7_method_1_code, 1, (none : Option FieldType))
theorem kX5_init : Cond.code mX5_init.1 mX5_init.2.1 mX5_init.2.2.1 mX5_init.2.2.2 ∈ az_tbl := tw_34
abbrev mX4_init : az_Me := (({ cls := "LetterNights$Past", name := "<init>", desc := "()V" } : Jvm.MethodName), prog_6_method_1_code, 1, (none : Option FieldType))
theorem kX4_init : Cond.code mX4_init.1 mX4_init.2.1 mX4_init.2.2.1 mX4_init.2.2.2 ∈ az_tbl := tw_78
abbrev mX7_init : az_Me := (({ cls := "LetterNights$Survey", name := "<init>", desc := "()V" } : Jvm.MethodName), prog_9_method_1_code, 1, (none : Option FieldType))
theorem kX7_init : Cond.code mX7_init.1 mX7_init.2.1 mX7_init.2.2.1 mX7_init.2.2.2 ∈ az_tbl := tw_102
abbrev mX0_init : az_Me := (({ cls := "LetterNights$Finder", name := "<init>", desc := "()V" } : Jvm.MethodName), prog_2_method_1_code, 1, (none : Option FieldType))
theorem kX0_init : Cond.code mX0_init.1 mX0_init.2.1 mX0_init.2.2.1 mX0_init.2.2.2 ∈ az_tbl := tw_123
abbrev mX2_init : az_Me := (({ cls := "LetterNights$Kin", name := "<init>", desc := "()V" } : Jvm.MethodName), prog_4_method_1_code, 1, (none : Option FieldType))
theorem kX2_init : Cond.code mX2_init.1 mX2_init.2.1 mX2_init.2.2.1 mX2_init.2.2.2 ∈ az_tbl := tw_155
abbrev mX9_init : az_Me := (({ cls := "LetterNights$Town", name := "<init>", desc := "()V" } : Jvm.MethodName), prog_11_method_1_code, 2, (none : Option FieldType))
theorem kX9_init : Cond.code mX9_init.1 mX9_init.2.1 mX9_init.2.2.1 mX9_init.2.2.2 ∈ az_tbl := tw_168
abbrev mX6_init : az_Me := (({ cls := "LetterNights$Scene", name := "<init>", desc := "(LLetterNights$Town;)V" } : Jvm.MethodName), prog_8_method_1_code, 2, (none : Option FieldType))
theorem kX6_init : Cond.code mX6_init.1 mX6_init.2.1 mX6_init.2.2.1 mX6_init.2.2.2 ∈ az_tbl := tw_225
abbrev mX6_begin : az_Me := (({ cls := "LetterNights$Scene", name := "begin", desc := "(LLetterNights$Town;)V" } : Jvm.MethodName), prog_8_method_2_code, 2, (none : Option FieldType))
theorem kX6_begin : Cond.code mX6_begin.1 mX6_begin.2.1 mX6_begin.2.2.1 mX6_begin.2.2.2 ∈ az_tbl := tw_230
abbrev mX6_layStart : az_Me := (({ cls := "LetterNights$Scene", name := "layStart", desc := "()V" } : Jvm.MethodName), prog_8_method_5_code, 4, (none : Option FieldType))
theorem kX6_layStart : Cond.code mX6_layStart.1 mX6_layStart.2.1 mX6_layStart.2.2.1 mX6_layStart.2.2.2 ∈ az_tbl := tw_234
abbrev mJ7_fill_d0a16 : az_Me := (({ cls := "java/util/Arrays", name := "fill", desc := "([JJ)V" } : Jvm.MethodName), prog_22_method_101_code, 5, (none : Option FieldType))
theorem kJ7_fill_d0a16 : Cond.code mJ7_fill_d0a16.1 mJ7_fill_d0a16.2.1 mJ7_fill_d0a16.2.2.1 mJ7_fill_d0a16.2.2.2 ∈ az_tbl := tw_237
abbrev mX6_enlisted : az_Me := (({ cls := "LetterNights$Scene", name := "enlisted", desc := "([III)I" } : Jvm.MethodName), prog_8_method_6_code, 4, (some FieldType.int : Option FieldType))
theorem kX6_enlisted : Cond.code mX6_enlisted.1 mX6_enlisted.2.1 mX6_enlisted.2.2.1 mX6_enlisted.2.2.2 ∈ az_tbl := tw_240
abbrev mX1_init : az_Me := (({ cls := "LetterNights$Futures", name := "<init>", desc := "(LLetterNights$Town;)V" } : Jvm.MethodName), prog_3_method_1_code, 2, (none : Option FieldType))
theorem kX1_init : Cond.code mX1_init.1 mX1_init.2.1 mX1_init.2.2.1 mX1_init.2.2.2 ∈ az_tbl := tw_307
abbrev mX8_init : az_Me := (({ cls := "LetterNights$Tally", name := "<init>", desc := "()V" } : Jvm.MethodName), prog_10_method_1_code, 1, (none : Option FieldType))
theorem kX8_init : Cond.code mX8_init.1 mX8_init.2.1 mX8_init.2.2.1 mX8_init.2.2.2 ∈ az_tbl := tw_313
abbrev mX10_init : az_Me := (({ cls := "LetterNights$Tray", name := "<init>", desc := "()V" } : Jvm.MethodName), prog_12_method_1_code, 1, (none : Option FieldType))
theorem kX10_init : Cond.code mX10_init.1 mX10_init.2.1 mX10_init.2.2.1 mX10_init.2.2.2 ∈ az_tbl := tw_356
abbrev mX11_feed : az_Me := (({ cls := "LetterNights", name := "feed", desc := "(IIIII)I" } : Jvm.MethodName), prog_1_method_2_code, 6, (some FieldType.int : Option FieldType))
theorem kX11_feed : Cond.code mX11_feed.1 mX11_feed.2.1 mX11_feed.2.2.1 mX11_feed.2.2.2 ∈ az_tbl := tw_411
abbrev mX11_tapeBytes : az_Me := (({ cls := "LetterNights", name := "tapeBytes", desc := "(I)V" } : Jvm.MethodName), prog_1_method_3_code, 3, (none : Option FieldType))
theorem kX11_tapeBytes : Cond.code mX11_tapeBytes.1 mX11_tapeBytes.2.1 mX11_tapeBytes.2.2.1 mX11_tapeBytes.2.2.2 ∈ az_tbl := tw_415
abbrev mX11_street : az_Me := (({ cls := "LetterNights", name := "street", desc := "(I)I" } : Jvm.MethodName), prog_1_method_4_code, 3, (some FieldType.int : Option FieldType))
theorem kX11_street : Cond.code mX11_street.1 mX11_street.2.1 mX11_street.2.2.1 mX11_street.2.2.2 ∈ az_tbl := tw_419
abbrev mX5_readTown : az_Me := (({ cls := "LetterNights$Reader", name := "readTown", desc := "([BI)LLetterNights$Town;" } : Jvm.MethodName), prog_7_method_2_code, 6, (some (FieldType.object "LetterNights$Town") : Option FieldType))
theorem kX5_readTown : Cond.code mX5_readTown.1 mX5_readTown.2.1 mX5_readTown.2.2.1 mX5_readTown.2.2.2 ∈ az_tbl := tw_423
abbrev mJ9_min_7cf53 : az_Me := (({ cls := "java/lang/Math", name := "min", desc := "(II)I" } : Jvm.MethodName), prog_17_method_69_code, 2, (some FieldType.int : Option FieldType))
theorem kJ9_min_7cf53 : Cond.code mJ9_min_7cf53.1 mJ9_min_7cf53.2.1 mJ9_min_7cf53.2.2.1 mJ9_min_7cf53.2.2.2 ∈ az_tbl := tw_426
abbrev mX5_advance : az_Me := (({ cls := "LetterNights$Reader", name := "advance", desc := "()V" } : Jvm.MethodName), prog_7_method_26_code, 2, (none : Option FieldType))
theorem kX5_advance : Cond.code mX5_advance.1 mX5_advance.2.1 mX5_advance.2.2.1 mX5_advance.2.2.2 ∈ az_tbl := tw_430
abbrev mX5_runOn : az_Me := (({ cls := "LetterNights$Reader", name := "runOn", desc := "(CC)V" } : Jvm.MethodName), prog_7_method_27_code, 3, (none : Option FieldType))
theorem kX5_runOn : Cond.code mX5_runOn.1 mX5_runOn.2.1 mX5_runOn.2.2.1 mX5_runOn.2.2.2 ∈ az_tbl := tw_434
abbrev mX5_worthOfDigits : az_Me := (({ cls := "LetterNights$Reader", name := "worthOfDigits", desc := "()V" } : Jvm.MethodName), prog_7_method_28_code, 2, (none : Option FieldType))
theorem kX5_worthOfDigits : Cond.code mX5_worthOfDigits.1 mX5_worthOfDigits.2.1 mX5_worthOfDigits.2.2.1 mX5_worthOfDigits.2.2.2 ∈ az_tbl := tw_438
abbrev mJ0_indexOf_0f7a4 : az_Me := (({ cls := "java/lang/String", name := "indexOf", desc := "(I)I" } : Jvm.MethodName), prog_18_method_79_code, 2, (some FieldType.int : Option FieldType))
theorem kJ0_indexOf_0f7a4 : Cond.code mJ0_indexOf_0f7a4.1 mJ0_indexOf_0f7a4.2.1 mJ0_indexOf_0f7a4.2.2.1 mJ0_indexOf_0f7a4.2.2.2 ∈ az_tbl := tw_443
abbrev mJ0_indexOf_7cf53 : az_Me := (({ cls := "java/lang/String", name := "indexOf", desc := "(II)I" } : Jvm.MethodName), prog_18_method_80_code, 3, (some FieldType.int : Option FieldType))
theorem kJ0_indexOf_7cf53 : Cond.code mJ0_indexOf_7cf53.1 mJ0_indexOf_7cf53.2.1 mJ0_indexOf_7cf53.2.2.1 mJ0_indexOf_7cf53.2.2.2 ∈ az_tbl := tw_447
abbrev mJ0_isLatin1_aae02 : az_Me := (({ cls := "java/lang/String", name := "isLatin1", desc := "()Z" } : Jvm.MethodName), prog_18_method_154_code, 1, (some FieldType.boolean : Option FieldType))
theorem kJ0_isLatin1_aae02 : Cond.code mJ0_isLatin1_aae02.1 mJ0_isLatin1_aae02.2.1 mJ0_isLatin1_aae02.2.2.1 mJ0_isLatin1_aae02.2.2.2 ∈ az_tbl := tw_451
abbrev mJ0_length_8abf5 : az_Me := (({ cls := "java/lang/String", name := "length", desc := "()I" } : Jvm.MethodName), prog_18_method_54_code, 1, (some FieldType.int : Option FieldType))
theorem kJ0_length_8abf5 : Cond.code mJ0_length_8abf5.1 mJ0_length_8abf5.2.1 mJ0_length_8abf5.2.2.1 mJ0_length_8abf5.2.2.2 ∈ az_tbl := tw_457
abbrev mJ0_coder_7d493 : az_Me := (({ cls := "java/lang/String", name := "coder", desc := "()B" } : Jvm.MethodName), prog_18_method_152_code, 1, (some FieldType.byte : Option FieldType))
theorem kJ0_coder_7d493 : Cond.code mJ0_coder_7d493.1 mJ0_coder_7d493.2.1 mJ0_coder_7d493.2.2.1 mJ0_coder_7d493.2.2.2 ∈ az_tbl := tw_461
abbrev mJ1_indexOf_4cfef : az_Me := (({ cls := "java/lang/StringLatin1", name := "indexOf", desc := "([BIII)I" } : Jvm.MethodName), prog_19_method_22_code, 4, (some FieldType.int : Option FieldType))
theorem kJ1_indexOf_4cfef : Cond.code mJ1_indexOf_4cfef.1 mJ1_indexOf_4cfef.2.1 mJ1_indexOf_4cfef.2.2.1 mJ1_indexOf_4cfef.2.2.2 ∈ az_tbl := tw_464
abbrev mJ1_canEncode_9a6ad : az_Me := (({ cls := "java/lang/StringLatin1", name := "canEncode", desc := "(I)Z" } : Jvm.MethodName), prog_19_method_4_code, 1, (some FieldType.boolean : Option FieldType))
theorem kJ1_canEncode_9a6ad : Cond.code mJ1_canEncode_9a6ad.1 mJ1_canEncode_9a6ad.2.1 mJ1_canEncode_9a6ad.2.2.1 mJ1_canEncode_9a6ad.2.2.2 ∈ az_tbl := tw_467
abbrev mJ9_max_7cf53 : az_Me := (({ cls := "java/lang/Math", name := "max", desc := "(II)I" } : Jvm.MethodName), prog_17_method_65_code, 2, (some FieldType.int : Option FieldType))
theorem kJ9_max_7cf53 : Cond.code mJ9_max_7cf53.1 mJ9_max_7cf53.2.1 mJ9_max_7cf53.2.2.1 mJ9_max_7cf53.2.2.2 ∈ az_tbl := tw_470
abbrev mJ1_indexOfChar_4cfef : az_Me := (({ cls := "java/lang/StringLatin1", name := "indexOfChar", desc := "([BIII)I" } : Jvm.MethodName), prog_19_method_23_code, 6, (some FieldType.int : Option FieldType))
theorem kJ1_indexOfChar_4cfef : Cond.code mJ1_indexOfChar_4cfef.1 mJ1_indexOfChar_4cfef.2.1 mJ1_indexOfChar_4cfef.2.2.1 mJ1_indexOfChar_4cfef.2.2.2 ∈ az_tbl := tw_474
abbrev mJ2_indexOf_4cfef : az_Me := (({ cls := "java/lang/StringUTF16", name := "indexOf", desc := "([BIII)I" } : Jvm.MethodName), prog_20_method_40_code, 4, (some FieldType.int : Option FieldType))
theorem kJ2_indexOf_4cfef : Cond.code mJ2_indexOf_4cfef.1 mJ2_indexOf_4cfef.2.1 mJ2_indexOf_4cfef.2.2.1 mJ2_indexOf_4cfef.2.2.2 ∈ az_tbl := tw_477
abbrev mJ2_indexOfChar_4cfef : az_Me := (({ cls := "java/lang/StringUTF16", name := "indexOfChar", desc := "([BIII)I" } : Jvm.MethodName), prog_20_method_47_code, 4, (some FieldType.int : Option FieldType))
theorem kJ2_indexOfChar_4cfef : Cond.code mJ2_indexOfChar_4cfef.1 mJ2_indexOfChar_4cfef.2.1 mJ2_indexOfChar_4cfef.2.2.1 mJ2_indexOfChar_4cfef.2.2.2 ∈ az_tbl := tw_483
abbrev mJ2_checkBoundsBeginEnd_d044e : az_Me := (({ cls := "java/lang/StringUTF16", name := "checkBoundsBeginEnd", desc := "(II[B)V" } : Jvm.MethodName), prog_20_method_93_code, 3, (none : Option FieldType))
theorem kJ2_checkBoundsBeginEnd_d044e : Cond.code mJ2_checkBoundsBeginEnd_d044e.1 mJ2_checkBoundsBeginEnd_d044e.2.1 mJ2_checkBoundsBeginEnd_d044e.2.2.1 mJ2_checkBoundsBeginEnd_d044e.2.2.2 ∈ az_tbl := tw_486
abbrev mJ2_length_9d52b : az_Me := (({ cls := "java/lang/StringUTF16", name := "length", desc := "([B)I" } : Jvm.MethodName), prog_20_method_6_code, 1, (some FieldType.int : Option FieldType))
theorem kJ2_length_9d52b : Cond.code mJ2_length_9d52b.1 mJ2_length_9d52b.2.1 mJ2_length_9d52b.2.2.1 mJ2_length_9d52b.2.2.2 ∈ az_tbl := tw_489
abbrev mJ0_checkBoundsBeginEnd_23922 : az_Me := (({ cls := "java/lang/String", name := "checkBoundsBeginEnd", desc := "(III)V" } : Jvm.MethodName), prog_18_method_158_code, 3, (none : Option FieldType))
theorem kJ0_checkBoundsBeginEnd_23922 : Cond.code mJ0_checkBoundsBeginEnd_23922.1 mJ0_checkBoundsBeginEnd_23922.2.1 mJ0_checkBoundsBeginEnd_23922.2.2.1 mJ0_checkBoundsBeginEnd_23922.2.2.2 ∈ az_tbl := tw_492
abbrev mJ3_checkFromToIndex_8c36e : az_Me := (({ cls := "jdk/internal/util/Preconditions", name := "checkFromToIndex", desc := "(IIILjava/util/function/BiFunction;)I" } : Jvm.MethodName), prog_23_method_12_code, 4, (some FieldType.int : Option FieldType))
theorem kJ3_checkFromToIndex_8c36e : Cond.code mJ3_checkFromToIndex_8c36e.1 mJ3_checkFromToIndex_8c36e.2.1 mJ3_checkFromToIndex_8c36e.2.2.1 mJ3_checkFromToIndex_8c36e.2.2.2 ∈ az_tbl := tw_497
abbrev mJ2_indexOfCharUnsafe_4cfef : az_Me := (({ cls := "java/lang/StringUTF16", name := "indexOfCharUnsafe", desc := "([BIII)I" } : Jvm.MethodName), prog_20_method_48_code, 5, (some FieldType.int : Option FieldType))
theorem kJ2_indexOfCharUnsafe_4cfef : Cond.code mJ2_indexOfCharUnsafe_4cfef.1 mJ2_indexOfCharUnsafe_4cfef.2.1 mJ2_indexOfCharUnsafe_4cfef.2.2.1 mJ2_indexOfCharUnsafe_4cfef.2.2.2 ∈ az_tbl := tw_500
abbrev mJ2_getChar_3b067 : az_Me := (({ cls := "java/lang/StringUTF16", name := "getChar", desc := "([BI)C" } : Jvm.MethodName), prog_20_method_5_code, 2, (some FieldType.char : Option FieldType))
theorem kJ2_getChar_3b067 : Cond.code mJ2_getChar_3b067.1 mJ2_getChar_3b067.2.1 mJ2_getChar_3b067.2.2.1 mJ2_getChar_3b067.2.2.2 ∈ az_tbl := tw_503
abbrev mJ2_indexOfSupplementary_4cfef : az_Me := (({ cls := "java/lang/StringUTF16", name := "indexOfSupplementary", desc := "([BIII)I" } : Jvm.MethodName), prog_20_method_49_code, 7, (some FieldType.int : Option FieldType))
theorem kJ2_indexOfSupplementary_4cfef : Cond.code mJ2_indexOfSupplementary_4cfef.1 mJ2_indexOfSupplementary_4cfef.2.1 mJ2_indexOfSupplementary_4cfef.2.2.1 mJ2_indexOfSupplementary_4cfef.2.2.2 ∈ az_tbl := tw_512
abbrev mJ11_isValidCodePoint_9a6ad : az_Me := (({ cls := "java/lang/Character", name := "isValidCodePoint", desc := "(I)Z" } : Jvm.MethodName), prog_15_method_11_code, 2, (some FieldType.boolean : Option FieldType))
theorem kJ11_isValidCodePoint_9a6ad : Cond.code mJ11_isValidCodePoint_9a6ad.1 mJ11_isValidCodePoint_9a6ad.2.1 mJ11_isValidCodePoint_9a6ad.2.2.1 mJ11_isValidCodePoint_9a6ad.2.2.2 ∈ az_tbl := tw_515
abbrev mJ11_highSurrogate_5068e : az_Me := (({ cls := "java/lang/Character", name := "highSurrogate", desc := "(I)C" } : Jvm.MethodName), prog_15_method_28_code, 1, (some FieldType.char : Option FieldType))
theorem kJ11_highSurrogate_5068e : Cond.code mJ11_highSurrogate_5068e.1 mJ11_highSurrogate_5068e.2.1 mJ11_highSurrogate_5068e.2.2.1 mJ11_highSurrogate_5068e.2.2.2 ∈ az_tbl := tw_518
abbrev mJ11_lowSurrogate_5068e : az_Me := (({ cls := "java/lang/Character", name := "lowSurrogate", desc := "(I)C" } : Jvm.MethodName), prog_15_method_29_code, 1, (some FieldType.char : Option FieldType))
theorem kJ11_lowSurrogate_5068e : Cond.code mJ11_lowSurrogate_5068e.1 mJ11_lowSurrogate_5068e.2.1 mJ11_lowSurrogate_5068e.2.2.1 mJ11_lowSurrogate_5068e.2.2.2 ∈ az_tbl := tw_522
abbrev mX5_readHead : az_Me := (({ cls := "LetterNights$Reader", name := "readHead", desc := "(LLetterNights$Town;)Z" } : Jvm.MethodName), prog_7_method_3_code, 2, (some FieldType.boolean : Option FieldType))
theorem kX5_readHead : Cond.code mX5_readHead.1 mX5_readHead.2.1 mX5_readHead.2.2.1 mX5_readHead.2.2.2 ∈ az_tbl := tw_529
abbrev mX5_takeWord : az_Me := (({ cls := "LetterNights$Reader", name := "takeWord", desc := "(Ljava/lang/String;)Z" } : Jvm.MethodName), prog_7_method_20_code, 2, (some FieldType.boolean : Option FieldType))
theorem kX5_takeWord : Cond.code mX5_takeWord.1 mX5_takeWord.2.1 mX5_takeWord.2.2.1 mX5_takeWord.2.2.2 ∈ az_tbl := tw_534
abbrev mX5_isWord : az_Me := (({ cls := "LetterNights$Reader", name := "isWord", desc := "(Ljava/lang/String;)Z" } : Jvm.MethodName), prog_7_method_24_code, 3, (some FieldType.boolean : Option FieldType))
theorem kX5_isWord : Cond.code mX5_isWord.1 mX5_isWord.2.1 mX5_isWord.2.2.1 mX5_isWord.2.2.2 ∈ az_tbl := tw_538
abbrev mJ0_charAt_5068e : az_Me := (({ cls := "java/lang/String", name := "charAt", desc := "(I)C" } : Jvm.MethodName), prog_18_method_56_code, 2, (some FieldType.char : Option FieldType))
theorem kJ0_charAt_5068e : Cond.code mJ0_charAt_5068e.1 mJ0_charAt_5068e.2.1 mJ0_charAt_5068e.2.2.1 mJ0_charAt_5068e.2.2.2 ∈ az_tbl := tw_543
abbrev mJ1_charAt_3b067 : az_Me := (({ cls := "java/lang/StringLatin1", name := "charAt", desc := "([BI)C" } : Jvm.MethodName), prog_19_method_2_code, 2, (some FieldType.char : Option FieldType))
theorem kJ1_charAt_3b067 : Cond.code mJ1_charAt_3b067.1 mJ1_charAt_3b067.2.1 mJ1_charAt_3b067.2.2.1 mJ1_charAt_3b067.2.2.2 ∈ az_tbl := tw_546
abbrev mJ0_checkIndex_df160 : az_Me := (({ cls := "java/lang/String", name := "checkIndex", desc := "(II)V" } : Jvm.MethodName), prog_18_method_155_code, 2, (none : Option FieldType))
theorem kJ0_checkIndex_df160 : Cond.code mJ0_checkIndex_df160.1 mJ0_checkIndex_df160.2.1 mJ0_checkIndex_df160.2.2.1 mJ0_checkIndex_df160.2.2.2 ∈ az_tbl := tw_549
abbrev mJ3_checkIndex_8e157 : az_Me := (({ cls := "jdk/internal/util/Preconditions", name := "checkIndex", desc := "(IILjava/util/function/BiFunction;)I" } : Jvm.MethodName), prog_23_method_11_code, 3, (some FieldType.int : Option FieldType))
theorem kJ3_checkIndex_8e157 : Cond.code mJ3_checkIndex_8e157.1 mJ3_checkIndex_8e157.2.1 mJ3_checkIndex_8e157.2.2.1 mJ3_checkIndex_8e157.2.2.2 ∈ az_tbl := tw_552
abbrev mJ2_charAt_3b067 : az_Me := (({ cls := "java/lang/StringUTF16", name := "charAt", desc := "([BI)C" } : Jvm.MethodName), prog_20_method_83_code, 2, (some FieldType.char : Option FieldType))
theorem kJ2_charAt_3b067 : Cond.code mJ2_charAt_3b067.1 mJ2_charAt_3b067.2.1 mJ2_charAt_3b067.2.2.1 mJ2_charAt_3b067.2.2.2 ∈ az_tbl := tw_555
abbrev mJ2_checkIndex_2214a : az_Me := (({ cls := "java/lang/StringUTF16", name := "checkIndex", desc := "(I[B)V" } : Jvm.MethodName), prog_20_method_91_code, 2, (none : Option FieldType))
theorem kJ2_checkIndex_2214a : Cond.code mJ2_checkIndex_2214a.1 mJ2_checkIndex_2214a.2.1 mJ2_checkIndex_2214a.2.2.1 mJ2_checkIndex_2214a.2.2.2 ∈ az_tbl := tw_558
abbrev mX5_fail : az_Me := (({ cls := "LetterNights$Reader", name := "fail", desc := "(I)Z" } : Jvm.MethodName), prog_7_method_19_code, 2, (some FieldType.boolean : Option FieldType))
theorem kX5_fail : Cond.code mX5_fail.1 mX5_fail.2.1 mX5_fail.2.2.1 mX5_fail.2.2.2 ∈ az_tbl := tw_563
abbrev mX5_takeNumber : az_Me := (({ cls := "LetterNights$Reader", name := "takeNumber", desc := "(II)Z" } : Jvm.MethodName), prog_7_method_22_code, 4, (some FieldType.boolean : Option FieldType))
theorem kX5_takeNumber : Cond.code mX5_takeNumber.1 mX5_takeNumber.2.1 mX5_takeNumber.2.2.1 mX5_takeNumber.2.2.2 ∈ az_tbl := tw_568
abbrev mX5_takeSign : az_Me := (({ cls := "LetterNights$Reader", name := "takeSign", desc := "(C)Z" } : Jvm.MethodName), prog_7_method_21_code, 2, (some FieldType.boolean : Option FieldType))
theorem kX5_takeSign : Cond.code mX5_takeSign.1 mX5_takeSign.2.1 mX5_takeSign.2.2.1 mX5_takeSign.2.2.2 ∈ az_tbl := tw_573
abbrev mX5_isSign : az_Me := (({ cls := "LetterNights$Reader", name := "isSign", desc := "(C)Z" } : Jvm.MethodName), prog_7_method_25_code, 2, (some FieldType.boolean : Option FieldType))
theorem kX5_isSign : Cond.code mX5_isSign.1 mX5_isSign.2.1 mX5_isSign.2.2.1 mX5_isSign.2.2.2 ∈ az_tbl := tw_577
abbrev mX5_readLine : az_Me := (({ cls := "LetterNights$Reader", name := "readLine", desc := "(LLetterNights$Town;)Z" } : Jvm.MethodName), prog_7_method_4_code, 3, (some FieldType.boolean : Option FieldType))
theorem kX5_readLine : Cond.code mX5_readLine.1 mX5_readLine.2.1 mX5_readLine.2.2.1 mX5_readLine.2.2.2 ∈ az_tbl := tw_581
abbrev mX5_readStands : az_Me := (({ cls := "LetterNights$Reader", name := "readStands", desc := "(LLetterNights$Town;)Z" } : Jvm.MethodName), prog_7_method_5_code, 2, (some FieldType.boolean : Option FieldType))
theorem kX5_readStands : Cond.code mX5_readStands.1 mX5_readStands.2.1 mX5_readStands.2.2.1 mX5_readStands.2.2.2 ∈ az_tbl := tw_586
abbrev mX5_takeLetters : az_Me := (({ cls := "LetterNights$Reader", name := "takeLetters", desc := "(I[II)Z" } : Jvm.MethodName), prog_7_method_23_code, 6, (some FieldType.boolean : Option FieldType))
theorem kX5_takeLetters : Cond.code mX5_takeLetters.1 mX5_takeLetters.2.1 mX5_takeLetters.2.2.1 mX5_takeLetters.2.2.2 ∈ az_tbl := tw_590
abbrev mX5_readRule : az_Me := (({ cls := "LetterNights$Reader", name := "readRule", desc := "(LLetterNights$Town;)Z" } : Jvm.MethodName), prog_7_method_6_code, 4, (some FieldType.boolean : Option FieldType))
theorem kX5_readRule : Cond.code mX5_readRule.1 mX5_readRule.2.1 mX5_readRule.2.2.1 mX5_readRule.2.2.2 ∈ az_tbl := tw_595
abbrev mX5_openLaw : az_Me := (({ cls := "LetterNights$Reader", name := "openLaw", desc := "()Z" } : Jvm.MethodName), prog_7_method_7_code, 1, (some FieldType.boolean : Option FieldType))
theorem kX5_openLaw : Cond.code mX5_openLaw.1 mX5_openLaw.2.1 mX5_openLaw.2.2.1 mX5_openLaw.2.2.2 ∈ az_tbl := tw_601
abbrev mX5_readSum : az_Me := (({ cls := "LetterNights$Reader", name := "readSum", desc := "(I)Z" } : Jvm.MethodName), prog_7_method_12_code, 5, (some FieldType.boolean : Option FieldType))
theorem kX5_readSum : Cond.code mX5_readSum.1 mX5_readSum.2.1 mX5_readSum.2.2.1 mX5_readSum.2.2.2 ∈ az_tbl := tw_605
abbrev mX5_readTerm : az_Me := (({ cls := "LetterNights$Reader", name := "readTerm", desc := "(I)Z" } : Jvm.MethodName), prog_7_method_13_code, 4, (some FieldType.boolean : Option FieldType))
theorem kX5_readTerm : Cond.code mX5_readTerm.1 mX5_readTerm.2.1 mX5_readTerm.2.2.1 mX5_readTerm.2.2.2 ∈ az_tbl := tw_609
abbrev mX5_readAtom : az_Me := (({ cls := "LetterNights$Reader", name := "readAtom", desc := "(I)Z" } : Jvm.MethodName), prog_7_method_14_code, 3, (some FieldType.boolean : Option FieldType))
theorem kX5_readAtom : Cond.code mX5_readAtom.1 mX5_readAtom.2.1 mX5_readAtom.2.2.1 mX5_readAtom.2.2.2 ∈ az_tbl := tw_613
abbrev mX5_goDeeper : az_Me := (({ cls := "LetterNights$Reader", name := "goDeeper", desc := "(I)Z" } : Jvm.MethodName), prog_7_method_17_code, 2, (some FieldType.boolean : Option FieldType))
theorem kX5_goDeeper : Cond.code mX5_goDeeper.1 mX5_goDeeper.2.1 mX5_goDeeper.2.2.1 mX5_goDeeper.2.2.2 ∈ az_tbl := tw_617
abbrev mX5_readChoice : az_Me := (({ cls := "LetterNights$Reader", name := "readChoice", desc := "(I)Z" } : Jvm.MethodName), prog_7_method_15_code, 3, (some FieldType.boolean : Option FieldType))
theorem kX5_readChoice : Cond.code mX5_readChoice.1 mX5_readChoice.2.1 mX5_readChoice.2.2.1 mX5_readChoice.2.2.2 ∈ az_tbl := tw_622
abbrev mX5_readTruth : az_Me := (({ cls := "LetterNights$Reader", name := "readTruth", desc := "(I)Z" } : Jvm.MethodName), prog_7_method_8_code, 4, (some FieldType.boolean : Option FieldType))
theorem kX5_readTruth : Cond.code mX5_readTruth.1 mX5_readTruth.2.1 mX5_readTruth.2.2.1 mX5_readTruth.2.2.2 ∈ az_tbl := tw_626
abbrev mX5_readBoth : az_Me := (({ cls := "LetterNights$Reader", name := "readBoth", desc := "(I)Z" } : Jvm.MethodName), prog_7_method_9_code, 4, (some FieldType.boolean : Option FieldType))
theorem kX5_readBoth : Cond.code mX5_readBoth.1 mX5_readBoth.2.1 mX5_readBoth.2.2.1 mX5_readBoth.2.2.2 ∈ az_tbl := tw_630
abbrev mX5_readUnit : az_Me := (({ cls := "LetterNights$Reader", name := "readUnit", desc := "(I)Z" } : Jvm.MethodName), prog_7_method_10_code, 3, (some FieldType.boolean : Option FieldType))
theorem kX5_readUnit : Cond.code mX5_readUnit.1 mX5_readUnit.2.1 mX5_readUnit.2.2.1 mX5_readUnit.2.2.2 ∈ az_tbl := tw_634
abbrev mX5_encode : az_Me := (({ cls := "LetterNights$Reader", name := "encode", desc := "(I)V" } : Jvm.MethodName), prog_7_method_18_code, 2, (none : Option FieldType))
theorem kX5_encode : Cond.code mX5_encode.1 mX5_encode.2.1 mX5_encode.2.2.1 mX5_encode.2.2.2 ∈ az_tbl := tw_639
abbrev mX5_lawOfComparison : az_Me := (({ cls := "LetterNights$Reader", name := "lawOfComparison", desc := "()I" } : Jvm.MethodName), prog_7_method_11_code, 1, (some FieldType.int : Option FieldType))
theorem kX5_lawOfComparison : Cond.code mX5_lawOfComparison.1 mX5_lawOfComparison.2.1 mX5_lawOfComparison.2.2.1 mX5_lawOfComparison.2.2.2 ∈ az_tbl := tw_643
abbrev mX5_lawOfName : az_Me := (({ cls := "LetterNights$Reader", name := "lawOfName", desc := "()I" } : Jvm.MethodName), prog_7_method_16_code, 1, (some FieldType.int : Option FieldType))
theorem kX5_lawOfName : Cond.code mX5_lawOfName.1 mX5_lawOfName.2.1 mX5_lawOfName.2.2.1 mX5_lawOfName.2.2.2 ∈ az_tbl := tw_652
abbrev mJ7_copyOf_59c91 : az_Me := (({ cls := "java/util/Arrays", name := "copyOf", desc := "([II)[I" } : Jvm.MethodName), prog_22_method_123_code, 3, (some (FieldType.array FieldType.int) : Option FieldType))
theorem kJ7_copyOf_59c91 : Cond.code mJ7_copyOf_59c91.1 mJ7_copyOf_59c91.2.1 mJ7_copyOf_59c91.2.2.1 mJ7_copyOf_59c91.2.2.2 ∈ az_tbl := tw_659
abbrev mX4_forget : az_Me := (({ cls := "LetterNights$Past", name := "forget", desc := "()V" } : Jvm.MethodName), prog_6_method_2_code, 1, (none : Option FieldType))
theorem kX4_forget : Cond.code mX4_forget.1 mX4_forget.2.1 mX4_forget.2.2.1 mX4_forget.2.2.2 ∈ az_tbl := tw_676
abbrev mX11_fault : az_Me := (({ cls := "LetterNights", name := "fault", desc := "(I)I" } : Jvm.MethodName), prog_1_method_5_code, 2, (some FieldType.int : Option FieldType))
theorem kX11_fault : Cond.code mX11_fault.1 mX11_fault.2.1 mX11_fault.2.2.1 mX11_fault.2.2.2 ∈ az_tbl := tw_680
abbrev mX11_becomes : az_Me := (({ cls := "LetterNights", name := "becomes", desc := "(III)I" } : Jvm.MethodName), prog_1_method_6_code, 5, (some FieldType.int : Option FieldType))
theorem kX11_becomes : Cond.code mX11_becomes.1 mX11_becomes.2.1 mX11_becomes.2.2.1 mX11_becomes.2.2.2 ∈ az_tbl := tw_684
abbrev mX11_isTable : az_Me := (({ cls := "LetterNights", name := "isTable", desc := "(I)Z" } : Jvm.MethodName), prog_1_method_48_code, 2, (some FieldType.boolean : Option FieldType))
theorem kX11_isTable : Cond.code mX11_isTable.1 mX11_isTable.2.1 mX11_isTable.2.2.1 mX11_isTable.2.2.2 ∈ az_tbl := tw_688
abbrev mX11_isLetter : az_Me := (({ cls := "LetterNights", name := "isLetter", desc := "(J)Z" } : Jvm.MethodName), prog_1_method_49_code, 2, (some FieldType.boolean : Option FieldType))
theorem kX11_isLetter : Cond.code mX11_isLetter.1 mX11_isLetter.2.1 mX11_isLetter.2.2.1 mX11_isLetter.2.2.2 ∈ az_tbl := tw_691
abbrev mX9_sizeOf : az_Me := (({ cls := "LetterNights$Town", name := "sizeOf", desc := "(II)I" } : Jvm.MethodName), prog_11_method_2_code, 4, (some FieldType.int : Option FieldType))
theorem kX9_sizeOf : Cond.code mX9_sizeOf.1 mX9_sizeOf.2.1 mX9_sizeOf.2.2.1 mX9_sizeOf.2.2.2 ∈ az_tbl := tw_696
abbrev mX9_childOf : az_Me := (({ cls := "LetterNights$Town", name := "childOf", desc := "(III)I" } : Jvm.MethodName), prog_11_method_3_code, 5, (some FieldType.int : Option FieldType))
theorem kX9_childOf : Cond.code mX9_childOf.1 mX9_childOf.2.1 mX9_childOf.2.2.1 mX9_childOf.2.2.2 ∈ az_tbl := tw_700
abbrev mX11_picks : az_Me := (({ cls := "LetterNights", name := "picks", desc := "()I" } : Jvm.MethodName), prog_1_method_7_code, 1, (some FieldType.int : Option FieldType))
theorem kX11_picks : Cond.code mX11_picks.1 mX11_picks.2.1 mX11_picks.2.2.1 mX11_picks.2.2.2 ∈ az_tbl := tw_704
abbrev mX6_asleep : az_Me := (({ cls := "LetterNights$Scene", name := "asleep", desc := "()Z" } : Jvm.MethodName), prog_8_method_9_code, 1, (some FieldType.boolean : Option FieldType))
theorem kX6_asleep : Cond.code mX6_asleep.1 mX6_asleep.2.1 mX6_asleep.2.2.1 mX6_asleep.2.2.2 ∈ az_tbl := tw_708
abbrev mX3_valueOf : az_Me := (({ cls := "LetterNights$Law", name := "valueOf", desc := "([ILLetterNights$Scene;)I" } : Jvm.MethodName), prog_5_method_2_code, 7, (some FieldType.int : Option FieldType))
theorem kX3_valueOf : Cond.code mX3_valueOf.1 mX3_valueOf.2.1 mX3_valueOf.2.2.1 mX3_valueOf.2.2.2 ∈ az_tbl := tw_711
abbrev mX3_needsOf : az_Me := (({ cls := "LetterNights$Law", name := "needsOf", desc := "(I)I" } : Jvm.MethodName), prog_5_method_3_code, 1, (some FieldType.int : Option FieldType))
theorem kX3_needsOf : Cond.code mX3_needsOf.1 mX3_needsOf.2.1 mX3_needsOf.2.2.1 mX3_needsOf.2.2.2 ∈ az_tbl := tw_714
abbrev mX3_atomOf : az_Me := (({ cls := "LetterNights$Law", name := "atomOf", desc := "(ILLetterNights$Scene;)I" } : Jvm.MethodName), prog_5_method_4_code, 2, (some FieldType.int : Option FieldType))
theorem kX3_atomOf : Cond.code mX3_atomOf.1 mX3_atomOf.2.1 mX3_atomOf.2.2.1 mX3_atomOf.2.2.2 ∈ az_tbl := tw_717
abbrev mX6_frontLetter : az_Me := (({ cls := "LetterNights$Scene", name := "frontLetter", desc := "()I" } : Jvm.MethodName), prog_8_method_11_code, 1, (some FieldType.int : Option FieldType))
theorem kX6_frontLetter : Cond.code mX6_frontLetter.1 mX6_frontLetter.2.1 mX6_frontLetter.2.2.1 mX6_frontLetter.2.2.2 ∈ az_tbl := tw_721
abbrev mX6_backLetter : az_Me := (({ cls := "LetterNights$Scene", name := "backLetter", desc := "()I" } : Jvm.MethodName), prog_8_method_12_code, 1, (some FieldType.int : Option FieldType))
theorem kX6_backLetter : Cond.code mX6_backLetter.1 mX6_backLetter.2.1 mX6_backLetter.2.2.1 mX6_backLetter.2.2.2 ∈ az_tbl := tw_725
abbrev mX3_joined : az_Me := (({ cls := "LetterNights$Law", name := "joined", desc := "(III)I" } : Jvm.MethodName), prog_5_method_5_code, 3, (some FieldType.int : Option FieldType))
theorem kX3_joined : Cond.code mX3_joined.1 mX3_joined.2.1 mX3_joined.2.2.1 mX3_joined.2.2.2 ∈ az_tbl := tw_729
abbrev mX3_kept : az_Me := (({ cls := "LetterNights$Law", name := "kept", desc := "(J)I" } : Jvm.MethodName), prog_5_method_6_code, 2, (some FieldType.int : Option FieldType))
theorem kX3_kept : Cond.code mX3_kept.1 mX3_kept.2.1 mX3_kept.2.2.1 mX3_kept.2.2.2 ∈ az_tbl := tw_732
abbrev mJ9_min_f86c9 : az_Me := (({ cls := "java/lang/Math", name := "min", desc := "(JJ)J" } : Jvm.MethodName), prog_17_method_70_code, 4, (some FieldType.long : Option FieldType))
theorem kJ9_min_f86c9 : Cond.code mJ9_min_f86c9.1 mJ9_min_f86c9.2.1 mJ9_min_f86c9.2.2.1 mJ9_min_f86c9.2.2.2 ∈ az_tbl := tw_737
abbrev mJ9_max_f86c9 : az_Me := (({ cls := "java/lang/Math", name := "max", desc := "(JJ)J" } : Jvm.MethodName), prog_17_method_66_code, 4, (some FieldType.long : Option FieldType))
theorem kJ9_max_f86c9 : Cond.code mJ9_max_f86c9.1 mJ9_max_f86c9.2.1 mJ9_max_f86c9.2.2.1 mJ9_max_f86c9.2.2.2 ∈ az_tbl := tw_740
abbrev mX6_pickedTable : az_Me := (({ cls := "LetterNights$Scene", name := "pickedTable", desc := "()I" } : Jvm.MethodName), prog_8_method_10_code, 1, (some FieldType.int : Option FieldType))
theorem kX6_pickedTable : Cond.code mX6_pickedTable.1 mX6_pickedTable.2.1 mX6_pickedTable.2.2.1 mX6_pickedTable.2.2.2 ∈ az_tbl := tw_744
abbrev mJ9_floorMod_7cf53 : az_Me := (({ cls := "java/lang/Math", name := "floorMod", desc := "(II)I" } : Jvm.MethodName), prog_17_method_50_code, 3, (some FieldType.int : Option FieldType))
theorem kJ9_floorMod_7cf53 : Cond.code mJ9_floorMod_7cf53.1 mJ9_floorMod_7cf53.2.1 mJ9_floorMod_7cf53.2.2.1 mJ9_floorMod_7cf53.2.2.2 ∈ az_tbl := tw_747
abbrev mX11_length : az_Me := (({ cls := "LetterNights", name := "length", desc := "()J" } : Jvm.MethodName), prog_1_method_8_code, 1, (some FieldType.long : Option FieldType))
theorem kX11_length : Cond.code mX11_length.1 mX11_length.2.1 mX11_length.2.2.1 mX11_length.2.2.2 ∈ az_tbl := tw_751
abbrev mX11_letter : az_Me := (({ cls := "LetterNights", name := "letter", desc := "(J)I" } : Jvm.MethodName), prog_1_method_9_code, 3, (some FieldType.int : Option FieldType))
theorem kX11_letter : Cond.code mX11_letter.1 mX11_letter.2.1 mX11_letter.2.2.1 mX11_letter.2.2.2 ∈ az_tbl := tw_755
abbrev mX7_measure : az_Me := (({ cls := "LetterNights$Survey", name := "measure", desc := "(LLetterNights$Scene;)V" } : Jvm.MethodName), prog_9_method_2_code, 2, (none : Option FieldType))
theorem kX7_measure : Cond.code mX7_measure.1 mX7_measure.2.1 mX7_measure.2.2.1 mX7_measure.2.2.2 ∈ az_tbl := tw_759
abbrev mX7_fill : az_Me := (({ cls := "LetterNights$Survey", name := "fill", desc := "(LLetterNights$Scene;[JI)V" } : Jvm.MethodName), prog_9_method_6_code, 12, (none : Option FieldType))
theorem kX7_fill : Cond.code mX7_fill.1 mX7_fill.2.1 mX7_fill.2.2.1 mX7_fill.2.2.2 ∈ az_tbl := tw_762
abbrev mX7_letterAt : az_Me := (({ cls := "LetterNights$Survey", name := "letterAt", desc := "(LLetterNights$Scene;J)I" } : Jvm.MethodName), prog_9_method_3_code, 4, (some FieldType.int : Option FieldType))
theorem kX7_letterAt : Cond.code mX7_letterAt.1 mX7_letterAt.2.1 mX7_letterAt.2.2.1 mX7_letterAt.2.2.2 ∈ az_tbl := tw_770
abbrev mX7_descend : az_Me := (({ cls := "LetterNights$Survey", name := "descend", desc := "(LLetterNights$Scene;[J[JJ)I" } : Jvm.MethodName), prog_9_method_7_code, 9, (some FieldType.int : Option FieldType))
theorem kX7_descend : Cond.code mX7_descend.1 mX7_descend.2.1 mX7_descend.2.2.1 mX7_descend.2.2.2 ∈ az_tbl := tw_774
abbrev mX7_isWithin : az_Me := (({ cls := "LetterNights$Survey", name := "isWithin", desc := "([J[JI)Z" } : Jvm.MethodName), prog_9_method_9_code, 4, (some FieldType.boolean : Option FieldType))
theorem kX7_isWithin : Cond.code mX7_isWithin.1 mX7_isWithin.2.1 mX7_isWithin.2.2.1 mX7_isWithin.2.2.2 ∈ az_tbl := tw_778
abbrev mX7_childWithin : az_Me := (({ cls := "LetterNights$Survey", name := "childWithin", desc := "(LLetterNights$Scene;II[J[J)I" } : Jvm.MethodName), prog_9_method_8_code, 10, (some FieldType.int : Option FieldType))
theorem kX7_childWithin : Cond.code mX7_childWithin.1 mX7_childWithin.2.1 mX7_childWithin.2.2.1 mX7_childWithin.2.2.2 ∈ az_tbl := tw_782
abbrev mX11_count : az_Me := (({ cls := "LetterNights", name := "count", desc := "(IJ)J" } : Jvm.MethodName), prog_1_method_10_code, 4, (some FieldType.long : Option FieldType))
theorem kX11_count : Cond.code mX11_count.1 mX11_count.2.1 mX11_count.2.2.1 mX11_count.2.2.2 ∈ az_tbl := tw_786
abbrev mX7_countAhead : az_Me := (({ cls := "LetterNights$Survey", name := "countAhead", desc := "(LLetterNights$Scene;IJ)J" } : Jvm.MethodName), prog_9_method_4_code, 5, (some FieldType.long : Option FieldType))
theorem kX7_countAhead : Cond.code mX7_countAhead.1 mX7_countAhead.2.1 mX7_countAhead.2.2.1 mX7_countAhead.2.2.2 ∈ az_tbl := tw_792
abbrev mX11_place : az_Me := (({ cls := "LetterNights", name := "place", desc := "(IJ)J" } : Jvm.MethodName), prog_1_method_11_code, 4, (some FieldType.long : Option FieldType))
theorem kX11_place : Cond.code mX11_place.1 mX11_place.2.1 mX11_place.2.2.1 mX11_place.2.2.2 ∈ az_tbl := tw_796
abbrev mX7_placeOf : az_Me := (({ cls := "LetterNights$Survey", name := "placeOf", desc := "(LLetterNights$Scene;IJ)J" } : Jvm.MethodName), prog_9_method_5_code, 5, (some FieldType.long : Option FieldType))
theorem kX7_placeOf : Cond.code mX7_placeOf.1 mX7_placeOf.2.1 mX7_placeOf.2.2.1 mX7_placeOf.2.2.2 ∈ az_tbl := tw_801
abbrev mX11_night : az_Me := (({ cls := "LetterNights", name := "night", desc := "(I)J" } : Jvm.MethodName), prog_1_method_12_code, 3, (some FieldType.long : Option FieldType))
theorem kX11_night : Cond.code mX11_night.1 mX11_night.2.1 mX11_night.2.2.1 mX11_night.2.2.2 ∈ az_tbl := tw_805
abbrev mX4_mark : az_Me := (({ cls := "LetterNights$Past", name := "mark", desc := "(LLetterNights$Scene;)V" } : Jvm.MethodName), prog_6_method_3_code, 2, (none : Option FieldType))
theorem kX4_mark : Cond.code mX4_mark.1 mX4_mark.2.1 mX4_mark.2.2.1 mX4_mark.2.2.2 ∈ az_tbl := tw_810
abbrev mX6_tryDeed : az_Me := (({ cls := "LetterNights$Scene", name := "tryDeed", desc := "(J)I" } : Jvm.MethodName), prog_8_method_7_code, 3, (some FieldType.int : Option FieldType))
theorem kX6_tryDeed : Cond.code mX6_tryDeed.1 mX6_tryDeed.2.1 mX6_tryDeed.2.2.1 mX6_tryDeed.2.2.2 ∈ az_tbl := tw_814
abbrev mX6_tryTable : az_Me := (({ cls := "LetterNights$Scene", name := "tryTable", desc := "(I)I" } : Jvm.MethodName), prog_8_method_8_code, 2, (some FieldType.int : Option FieldType))
theorem kX6_tryTable : Cond.code mX6_tryTable.1 mX6_tryTable.2.1 mX6_tryTable.2.2.1 mX6_tryTable.2.2.2 ∈ az_tbl := tw_820
abbrev mX6_spanBy : az_Me := (({ cls := "LetterNights$Scene", name := "spanBy", desc := "(I)J" } : Jvm.MethodName), prog_8_method_14_code, 5, (some FieldType.long : Option FieldType))
theorem kX6_spanBy : Cond.code mX6_spanBy.1 mX6_spanBy.2.1 mX6_spanBy.2.2.1 mX6_spanBy.2.2.2 ∈ az_tbl := tw_824
abbrev mX6_grow : az_Me := (({ cls := "LetterNights$Scene", name := "grow", desc := "(I)V" } : Jvm.MethodName), prog_8_method_15_code, 3, (none : Option FieldType))
theorem kX6_grow : Cond.code mX6_grow.1 mX6_grow.2.1 mX6_grow.2.2.1 mX6_grow.2.2.2 ∈ az_tbl := tw_830
abbrev mX6_growCounts : az_Me := (({ cls := "LetterNights$Scene", name := "growCounts", desc := "(I)V" } : Jvm.MethodName), prog_8_method_16_code, 5, (none : Option FieldType))
theorem kX6_growCounts : Cond.code mX6_growCounts.1 mX6_growCounts.2.1 mX6_growCounts.2.2.1 mX6_growCounts.2.2.2 ∈ az_tbl := tw_834
abbrev mX6_growOrder : az_Me := (({ cls := "LetterNights$Scene", name := "growOrder", desc := "([IIZ)I" } : Jvm.MethodName), prog_8_method_17_code, 10, (some FieldType.int : Option FieldType))
theorem kX6_growOrder : Cond.code mX6_growOrder.1 mX6_growOrder.2.1 mX6_growOrder.2.2.1 mX6_growOrder.2.2.2 ∈ az_tbl := tw_840
abbrev mX4_keepMark : az_Me := (({ cls := "LetterNights$Past", name := "keepMark", desc := "()V" } : Jvm.MethodName), prog_6_method_4_code, 1, (none : Option FieldType))
theorem kX4_keepMark : Cond.code mX4_keepMark.1 mX4_keepMark.2.1 mX4_keepMark.2.2.1 mX4_keepMark.2.2.2 ∈ az_tbl := tw_846
abbrev mX11_nights : az_Me := (({ cls := "LetterNights", name := "nights", desc := "(I)I" } : Jvm.MethodName), prog_1_method_13_code, 3, (some FieldType.int : Option FieldType))
theorem kX11_nights : Cond.code mX11_nights.1 mX11_nights.2.1 mX11_nights.2.2.1 mX11_nights.2.2.2 ∈ az_tbl := tw_851
abbrev mX11_keepIfDone : az_Me := (({ cls := "LetterNights", name := "keepIfDone", desc := "(I)V" } : Jvm.MethodName), prog_1_method_14_code, 2, (none : Option FieldType))
theorem kX11_keepIfDone : Cond.code mX11_keepIfDone.1 mX11_keepIfDone.2.1 mX11_keepIfDone.2.2.1 mX11_keepIfDone.2.2.2 ∈ az_tbl := tw_855
abbrev mX11_moon : az_Me := (({ cls := "LetterNights", name := "moon", desc := "(I)I" } : Jvm.MethodName), prog_1_method_15_code, 3, (some FieldType.int : Option FieldType))
theorem kX11_moon : Cond.code mX11_moon.1 mX11_moon.2.1 mX11_moon.2.2.1 mX11_moon.2.2.2 ∈ az_tbl := tw_859
abbrev mX11_undo : az_Me := (({ cls := "LetterNights", name := "undo", desc := "(I)I" } : Jvm.MethodName), prog_1_method_16_code, 2, (some FieldType.int : Option FieldType))
theorem kX11_undo : Cond.code mX11_undo.1 mX11_undo.2.1 mX11_undo.2.2.1 mX11_undo.2.2.2 ∈ az_tbl := tw_863
abbrev mX4_goBack : az_Me := (({ cls := "LetterNights$Past", name := "goBack", desc := "(LLetterNights$Scene;I)V" } : Jvm.MethodName), prog_6_method_5_code, 4, (none : Option FieldType))
theorem kX4_goBack : Cond.code mX4_goBack.1 mX4_goBack.2.1 mX4_goBack.2.2.1 mX4_goBack.2.2.2 ∈ az_tbl := tw_867
abbrev mX6_rewind : az_Me := (({ cls := "LetterNights$Scene", name := "rewind", desc := "(III)V" } : Jvm.MethodName), prog_8_method_4_code, 5, (none : Option FieldType))
theorem kX6_rewind : Cond.code mX6_rewind.1 mX6_rewind.2.1 mX6_rewind.2.2.1 mX6_rewind.2.2.2 ∈ az_tbl := tw_871
abbrev mX11_judge : az_Me := (({ cls := "LetterNights", name := "judge", desc := "(II)I" } : Jvm.MethodName), prog_1_method_17_code, 6, (some FieldType.int : Option FieldType))
theorem kX11_judge : Cond.code mX11_judge.1 mX11_judge.2.1 mX11_judge.2.2.1 mX11_judge.2.2.2 ∈ az_tbl := tw_876
abbrev mX11_isTray : az_Me := (({ cls := "LetterNights", name := "isTray", desc := "(I)Z" } : Jvm.MethodName), prog_1_method_50_code, 1, (some FieldType.boolean : Option FieldType))
theorem kX11_isTray : Cond.code mX11_isTray.1 mX11_isTray.2.1 mX11_isTray.2.2.1 mX11_isTray.2.2.2 ∈ az_tbl := tw_879
abbrev mX10_missing : az_Me := (({ cls := "LetterNights$Tray", name := "missing", desc := "()Z" } : Jvm.MethodName), prog_12_method_2_code, 1, (some FieldType.boolean : Option FieldType))
theorem kX10_missing : Cond.code mX10_missing.1 mX10_missing.2.1 mX10_missing.2.2.1 mX10_missing.2.2.2 ∈ az_tbl := tw_883
abbrev mX6_copyFrom : az_Me := (({ cls := "LetterNights$Scene", name := "copyFrom", desc := "(LLetterNights$Scene;)V" } : Jvm.MethodName), prog_8_method_3_code, 2, (none : Option FieldType))
theorem kX6_copyFrom : Cond.code mX6_copyFrom.1 mX6_copyFrom.2.1 mX6_copyFrom.2.2.1 mX6_copyFrom.2.2.2 ∈ az_tbl := tw_887
abbrev mX10_get : az_Me := (({ cls := "LetterNights$Tray", name := "get", desc := "(I)J" } : Jvm.MethodName), prog_12_method_4_code, 2, (some FieldType.long : Option FieldType))
theorem kX10_get : Cond.code mX10_get.1 mX10_get.2.1 mX10_get.2.2.1 mX10_get.2.2.2 ∈ az_tbl := tw_891
abbrev mX11_perform : az_Me := (({ cls := "LetterNights", name := "perform", desc := "(I)I" } : Jvm.MethodName), prog_1_method_18_code, 5, (some FieldType.int : Option FieldType))
theorem kX11_perform : Cond.code mX11_perform.1 mX11_perform.2.1 mX11_perform.2.2.1 mX11_perform.2.2.2 ∈ az_tbl := tw_897
abbrev mX11_refusalOfTray : az_Me := (({ cls := "LetterNights", name := "refusalOfTray", desc := "(I)I" } : Jvm.MethodName), prog_1_method_51_code, 2, (some FieldType.int : Option FieldType))
theorem kX11_refusalOfTray : Cond.code mX11_refusalOfTray.1 mX11_refusalOfTray.2.1 mX11_refusalOfTray.2.2.1 mX11_refusalOfTray.2.2.2 ∈ az_tbl := tw_901
abbrev mX11_year : az_Me := (({ cls := "LetterNights", name := "year", desc := "(II)I" } : Jvm.MethodName), prog_1_method_19_code, 8, (some FieldType.int : Option FieldType))
theorem kX11_year : Cond.code mX11_year.1 mX11_year.2.1 mX11_year.2.2.1 mX11_year.2.2.2 ∈ az_tbl := tw_905
abbrev mX11_drawnFrom : az_Me := (({ cls := "LetterNights", name := "drawnFrom", desc := "(I)I" } : Jvm.MethodName), prog_1_method_20_code, 1, (some FieldType.int : Option FieldType))
theorem kX11_drawnFrom : Cond.code mX11_drawnFrom.1 mX11_drawnFrom.2.1 mX11_drawnFrom.2.2.1 mX11_drawnFrom.2.2.2 ∈ az_tbl := tw_908
abbrev mX11_occurs : az_Me := (({ cls := "LetterNights", name := "occurs", desc := "(I)J" } : Jvm.MethodName), prog_1_method_21_code, 3, (some FieldType.long : Option FieldType))
theorem kX11_occurs : Cond.code mX11_occurs.1 mX11_occurs.2.1 mX11_occurs.2.2.1 mX11_occurs.2.2.2 ∈ az_tbl := tw_913
abbrev mX11_refusalOfWord : az_Me := (({ cls := "LetterNights", name := "refusalOfWord", desc := "(I)I" } : Jvm.MethodName), prog_1_method_52_code, 5, (some FieldType.int : Option FieldType))
theorem kX11_refusalOfWord : Cond.code mX11_refusalOfWord.1 mX11_refusalOfWord.2.1 mX11_refusalOfWord.2.2.1 mX11_refusalOfWord.2.2.2 ∈ az_tbl := tw_917
abbrev mX0_learn : az_Me := (({ cls := "LetterNights$Finder", name := "learn", desc := "(LLetterNights$Tray;)V" } : Jvm.MethodName), prog_2_method_3_code, 3, (none : Option FieldType))
theorem kX0_learn : Cond.code mX0_learn.1 mX0_learn.2.1 mX0_learn.2.2.1 mX0_learn.2.2.2 ∈ az_tbl := tw_921
abbrev mX0_behind : az_Me := (({ cls := "LetterNights$Finder", name := "behind", desc := "(II)I" } : Jvm.MethodName), prog_2_method_4_code, 5, (some FieldType.int : Option FieldType))
theorem kX0_behind : Cond.code mX0_behind.1 mX0_behind.2.1 mX0_behind.2.2.1 mX0_behind.2.2.2 ∈ az_tbl := tw_927
abbrev mX0_search : az_Me := (({ cls := "LetterNights$Finder", name := "search", desc := "(LLetterNights$Scene;)V" } : Jvm.MethodName), prog_2_method_5_code, 6, (none : Option FieldType))
theorem kX0_search : Cond.code mX0_search.1 mX0_search.2.1 mX0_search.2.2.1 mX0_search.2.2.2 ∈ az_tbl := tw_931
abbrev mX0_cellOf : az_Me := (({ cls := "LetterNights$Finder", name := "cellOf", desc := "(III)I" } : Jvm.MethodName), prog_2_method_2_code, 3, (some FieldType.int : Option FieldType))
theorem kX0_cellOf : Cond.code mX0_cellOf.1 mX0_cellOf.2.1 mX0_cellOf.2.2.1 mX0_cellOf.2.2.2 ∈ az_tbl := tw_934
abbrev mX0_searchLetter : az_Me := (({ cls := "LetterNights$Finder", name := "searchLetter", desc := "(LLetterNights$Scene;II)V" } : Jvm.MethodName), prog_2_method_6_code, 12, (none : Option FieldType))
theorem kX0_searchLetter : Cond.code mX0_searchLetter.1 mX0_searchLetter.2.1 mX0_searchLetter.2.2.1 mX0_searchLetter.2.2.2 ∈ az_tbl := tw_938
abbrev mX0_hitsInAll : az_Me := (({ cls := "LetterNights$Finder", name := "hitsInAll", desc := "(LLetterNights$Scene;)J" } : Jvm.MethodName), prog_2_method_7_code, 7, (some FieldType.long : Option FieldType))
theorem kX0_hitsInAll : Cond.code mX0_hitsInAll.1 mX0_hitsInAll.2.1 mX0_hitsInAll.2.2.1 mX0_hitsInAll.2.2.2 ∈ az_tbl := tw_946
abbrev mX11_first : az_Me := (({ cls := "LetterNights", name := "first", desc := "(I)J" } : Jvm.MethodName), prog_1_method_22_code, 3, (some FieldType.long : Option FieldType))
theorem kX11_first : Cond.code mX11_first.1 mX11_first.2.1 mX11_first.2.2.1 mX11_first.2.2.2 ∈ az_tbl := tw_950
abbrev mX0_firstPlace : az_Me := (({ cls := "LetterNights$Finder", name := "firstPlace", desc := "(LLetterNights$Scene;[J)J" } : Jvm.MethodName), prog_2_method_8_code, 6, (some FieldType.long : Option FieldType))
theorem kX0_firstPlace : Cond.code mX0_firstPlace.1 mX0_firstPlace.2.1 mX0_firstPlace.2.2.1 mX0_firstPlace.2.2.2 ∈ az_tbl := tw_954
abbrev mX0_isHit : az_Me := (({ cls := "LetterNights$Finder", name := "isHit", desc := "(II[J)Z" } : Jvm.MethodName), prog_2_method_10_code, 5, (some FieldType.boolean : Option FieldType))
theorem kX0_isHit : Cond.code mX0_isHit.1 mX0_isHit.2.1 mX0_isHit.2.2.1 mX0_isHit.2.2.2 ∈ az_tbl := tw_958
abbrev mX0_childHit : az_Me := (({ cls := "LetterNights$Finder", name := "childHit", desc := "(LLetterNights$Scene;II[J)I" } : Jvm.MethodName), prog_2_method_9_code, 9, (some FieldType.int : Option FieldType))
theorem kX0_childHit : Cond.code mX0_childHit.1 mX0_childHit.2.1 mX0_childHit.2.2.1 mX0_childHit.2.2.2 ∈ az_tbl := tw_962
abbrev mX11_backs : az_Me := (({ cls := "LetterNights", name := "backs", desc := "(II)I" } : Jvm.MethodName), prog_1_method_23_code, 4, (some FieldType.int : Option FieldType))
theorem kX11_backs : Cond.code mX11_backs.1 mX11_backs.2.1 mX11_backs.2.2.1 mX11_backs.2.2.2 ∈ az_tbl := tw_967
abbrev mX11_refusalOfReadingBack : az_Me := (({ cls := "LetterNights", name := "refusalOfReadingBack", desc := "(II)I" } : Jvm.MethodName), prog_1_method_53_code, 3, (some FieldType.int : Option FieldType))
theorem kX11_refusalOfReadingBack : Cond.code mX11_refusalOfReadingBack.1 mX11_refusalOfReadingBack.2.1 mX11_refusalOfReadingBack.2.2.1 mX11_refusalOfReadingBack.2.2.2 ∈ az_tbl := tw_971
abbrev mX0_readBack : az_Me := (({ cls := "LetterNights$Finder", name := "readBack", desc := "(LLetterNights$Tray;LLetterNights$Town;I)V" } : Jvm.MethodName), prog_2_method_11_code, 8, (none : Option FieldType))
theorem kX0_readBack : Cond.code mX0_readBack.1 mX0_readBack.2.1 mX0_readBack.2.2.1 mX0_readBack.2.2.2 ∈ az_tbl := tw_975
abbrev mX0_standsAt : az_Me := (({ cls := "LetterNights$Finder", name := "standsAt", desc := "(LLetterNights$Tray;ILLetterNights$Town;II)Z" } : Jvm.MethodName), prog_2_method_13_code, 7, (some FieldType.boolean : Option FieldType))
theorem kX0_standsAt : Cond.code mX0_standsAt.1 mX0_standsAt.2.1 mX0_standsAt.2.2.1 mX0_standsAt.2.2.2 ∈ az_tbl := tw_978
abbrev mX11_backBy : az_Me := (({ cls := "LetterNights", name := "backBy", desc := "(III)I" } : Jvm.MethodName), prog_1_method_24_code, 5, (some FieldType.int : Option FieldType))
theorem kX11_backBy : Cond.code mX11_backBy.1 mX11_backBy.2.1 mX11_backBy.2.2.1 mX11_backBy.2.2.2 ∈ az_tbl := tw_982
abbrev mX0_letterBack : az_Me := (({ cls := "LetterNights$Finder", name := "letterBack", desc := "(LLetterNights$Tray;LLetterNights$Town;II)I" } : Jvm.MethodName), prog_2_method_12_code, 10, (some FieldType.int : Option FieldType))
theorem kX0_letterBack : Cond.code mX0_letterBack.1 mX0_letterBack.2.1 mX0_letterBack.2.2.1 mX0_letterBack.2.2.2 ∈ az_tbl := tw_986
abbrev mX11_fate : az_Me := (({ cls := "LetterNights", name := "fate", desc := "(II)I" } : Jvm.MethodName), prog_1_method_25_code, 3, (some FieldType.int : Option FieldType))
theorem kX11_fate : Cond.code mX11_fate.1 mX11_fate.2.1 mX11_fate.2.2.1 mX11_fate.2.2.2 ∈ az_tbl := tw_990
abbrev mX2_learn : az_Me := (({ cls := "LetterNights$Kin", name := "learn", desc := "(LLetterNights$Town;I)V" } : Jvm.MethodName), prog_4_method_2_code, 5, (none : Option FieldType))
theorem kX2_learn : Cond.code mX2_learn.1 mX2_learn.2.1 mX2_learn.2.2.1 mX2_learn.2.2.2 ∈ az_tbl := tw_994
abbrev mX9_childBits : az_Me := (({ cls := "LetterNights$Town", name := "childBits", desc := "(II)I" } : Jvm.MethodName), prog_11_method_4_code, 6, (some FieldType.int : Option FieldType))
theorem kX9_childBits : Cond.code mX9_childBits.1 mX9_childBits.2.1 mX9_childBits.2.2.1 mX9_childBits.2.2.2 ∈ az_tbl := tw_998
abbrev mX2_reaches : az_Me := (({ cls := "LetterNights$Kin", name := "reaches", desc := "(II)Z" } : Jvm.MethodName), prog_4_method_3_code, 3, (some FieldType.boolean : Option FieldType))
theorem kX2_reaches : Cond.code mX2_reaches.1 mX2_reaches.2.1 mX2_reaches.2.2.1 mX2_reaches.2.2.2 ∈ az_tbl := tw_1004
abbrev mX2_learnChains : az_Me := (({ cls := "LetterNights$Kin", name := "learnChains", desc := "()V" } : Jvm.MethodName), prog_4_method_4_code, 3, (none : Option FieldType))
theorem kX2_learnChains : Cond.code mX2_learnChains.1 mX2_learnChains.2.1 mX2_learnChains.2.2.1 mX2_learnChains.2.2.2 ∈ az_tbl := tw_1008
abbrev mJ7_fill_53178 : az_Me := (({ cls := "java/util/Arrays", name := "fill", desc := "([II)V" } : Jvm.MethodName), prog_22_method_103_code, 4, (none : Option FieldType))
theorem kJ7_fill_53178 : Cond.code mJ7_fill_53178.1 mJ7_fill_53178.2.1 mJ7_fill_53178.2.2.1 mJ7_fill_53178.2.2.2 ∈ az_tbl := tw_1011
abbrev mX2_longestBehind : az_Me := (({ cls := "LetterNights$Kin", name := "longestBehind", desc := "(I)I" } : Jvm.MethodName), prog_4_method_5_code, 4, (some FieldType.int : Option FieldType))
theorem kX2_longestBehind : Cond.code mX2_longestBehind.1 mX2_longestBehind.2.1 mX2_longestBehind.2.2.1 mX2_longestBehind.2.2.2 ∈ az_tbl := tw_1015
abbrev mX2_fateOf : az_Me := (({ cls := "LetterNights$Kin", name := "fateOf", desc := "(LLetterNights$Town;II)I" } : Jvm.MethodName), prog_4_method_7_code, 6, (some FieldType.int : Option FieldType))
theorem kX2_fateOf : Cond.code mX2_fateOf.1 mX2_fateOf.2.1 mX2_fateOf.2.2.1 mX2_fateOf.2.2.2 ∈ az_tbl := tw_1020
abbrev mX2_chainFrom : az_Me := (({ cls := "LetterNights$Kin", name := "chainFrom", desc := "(I)I" } : Jvm.MethodName), prog_4_method_6_code, 4, (some FieldType.int : Option FieldType))
theorem kX2_chainFrom : Cond.code mX2_chainFrom.1 mX2_chainFrom.2.1 mX2_chainFrom.2.2.1 mX2_chainFrom.2.2.2 ∈ az_tbl := tw_1024
abbrev mX2_doubles : az_Me := (({ cls := "LetterNights$Kin", name := "doubles", desc := "(LLetterNights$Town;II)Z" } : Jvm.MethodName), prog_4_method_8_code, 8, (some FieldType.boolean : Option FieldType))
theorem kX2_doubles : Cond.code mX2_doubles.1 mX2_doubles.2.1 mX2_doubles.2.2.1 mX2_doubles.2.2.2 ∈ az_tbl := tw_1028
abbrev mX11_degree : az_Me := (({ cls := "LetterNights", name := "degree", desc := "(II)I" } : Jvm.MethodName), prog_1_method_26_code, 3, (some FieldType.int : Option FieldType))
theorem kX11_degree : Cond.code mX11_degree.1 mX11_degree.2.1 mX11_degree.2.2.1 mX11_degree.2.2.2 ∈ az_tbl := tw_1034
abbrev mX11_begins : az_Me := (({ cls := "LetterNights", name := "begins", desc := "(I)I" } : Jvm.MethodName), prog_1_method_27_code, 4, (some FieldType.int : Option FieldType))
theorem kX11_begins : Cond.code mX11_begins.1 mX11_begins.2.1 mX11_begins.2.2.1 mX11_begins.2.2.2 ∈ az_tbl := tw_1039
abbrev mX11_comes : az_Me := (({ cls := "LetterNights", name := "comes", desc := "(I)I" } : Jvm.MethodName), prog_1_method_28_code, 6, (some FieldType.int : Option FieldType))
theorem kX11_comes : Cond.code mX11_comes.1 mX11_comes.2.1 mX11_comes.2.2.1 mX11_comes.2.2.2 ∈ az_tbl := tw_1043
abbrev mX6_standingBits : az_Me := (({ cls := "LetterNights$Scene", name := "standingBits", desc := "()I" } : Jvm.MethodName), prog_8_method_13_code, 3, (some FieldType.int : Option FieldType))
theorem kX6_standingBits : Cond.code mX6_standingBits.1 mX6_standingBits.2.1 mX6_standingBits.2.2.1 mX6_standingBits.2.2.2 ∈ az_tbl := tw_1047
abbrev mX9_childBitsOfAll : az_Me := (({ cls := "LetterNights$Town", name := "childBitsOfAll", desc := "(II)I" } : Jvm.MethodName), prog_11_method_5_code, 5, (some FieldType.int : Option FieldType))
theorem kX9_childBitsOfAll : Cond.code mX9_childBitsOfAll.1 mX9_childBitsOfAll.2.1 mX9_childBitsOfAll.2.2.1 mX9_childBitsOfAll.2.2.2 ∈ az_tbl := tw_1051
abbrev mX11_soonest : az_Me := (({ cls := "LetterNights", name := "soonest", desc := "(J)I" } : Jvm.MethodName), prog_1_method_29_code, 3, (some FieldType.int : Option FieldType))
theorem kX11_soonest : Cond.code mX11_soonest.1 mX11_soonest.2.1 mX11_soonest.2.2.1 mX11_soonest.2.2.2 ∈ az_tbl := tw_1056
abbrev mX1_soonestRow : az_Me := (({ cls := "LetterNights$Futures", name := "soonestRow", desc := "(LLetterNights$Scene;J)I" } : Jvm.MethodName), prog_3_method_10_code, 5, (some FieldType.int : Option FieldType))
theorem kX1_soonestRow : Cond.code mX1_soonestRow.1 mX1_soonestRow.2.1 mX1_soonestRow.2.2.1 mX1_soonestRow.2.2.2 ∈ az_tbl := tw_1060
abbrev mX1_begin : az_Me := (({ cls := "LetterNights$Futures", name := "begin", desc := "(LLetterNights$Scene;)V" } : Jvm.MethodName), prog_3_method_2_code, 2, (none : Option FieldType))
theorem kX1_begin : Cond.code mX1_begin.1 mX1_begin.2.1 mX1_begin.2.2.1 mX1_begin.2.2.2 ∈ az_tbl := tw_1064
abbrev mX1_findRow : az_Me := (({ cls := "LetterNights$Futures", name := "findRow", desc := "(JII)Z" } : Jvm.MethodName), prog_3_method_11_code, 6, (some FieldType.boolean : Option FieldType))
theorem kX1_findRow : Cond.code mX1_findRow.1 mX1_findRow.2.1 mX1_findRow.2.2.1 mX1_findRow.2.2.2 ∈ az_tbl := tw_1069
abbrev mX1_spanAt : az_Me := (({ cls := "LetterNights$Futures", name := "spanAt", desc := "(I)J" } : Jvm.MethodName), prog_3_method_5_code, 5, (some FieldType.long : Option FieldType))
theorem kX1_spanAt : Cond.code mX1_spanAt.1 mX1_spanAt.2.1 mX1_spanAt.2.2.1 mX1_spanAt.2.2.2 ∈ az_tbl := tw_1073
abbrev mX1_spanBy : az_Me := (({ cls := "LetterNights$Futures", name := "spanBy", desc := "(II)J" } : Jvm.MethodName), prog_3_method_6_code, 8, (some FieldType.long : Option FieldType))
theorem kX1_spanBy : Cond.code mX1_spanBy.1 mX1_spanBy.2.1 mX1_spanBy.2.2.1 mX1_spanBy.2.2.2 ∈ az_tbl := tw_1077
abbrev mX1_passNight : az_Me := (({ cls := "LetterNights$Futures", name := "passNight", desc := "(II)V" } : Jvm.MethodName), prog_3_method_9_code, 3, (none : Option FieldType))
theorem kX1_passNight : Cond.code mX1_passNight.1 mX1_passNight.2.1 mX1_passNight.2.2.1 mX1_passNight.2.2.2 ∈ az_tbl := tw_1081
abbrev mX1_clear : az_Me := (({ cls := "LetterNights$Futures", name := "clear", desc := "(I)V" } : Jvm.MethodName), prog_3_method_7_code, 2, (none : Option FieldType))
theorem kX1_clear : Cond.code mX1_clear.1 mX1_clear.2.1 mX1_clear.2.2.1 mX1_clear.2.2.2 ∈ az_tbl := tw_1085
abbrev mJ7_fill_bad5a : az_Me := (({ cls := "java/util/Arrays", name := "fill", desc := "([JIIJ)V" } : Jvm.MethodName), prog_22_method_102_code, 6, (none : Option FieldType))
theorem kJ7_fill_bad5a : Cond.code mJ7_fill_bad5a.1 mJ7_fill_bad5a.2.1 mJ7_fill_bad5a.2.2.1 mJ7_fill_bad5a.2.2.2 ∈ az_tbl := tw_1088
abbrev mJ7_rangeCheck_23922 : az_Me := (({ cls := "java/util/Arrays", name := "rangeCheck", desc := "(III)V" } : Jvm.MethodName), prog_22_method_30_code, 3, (none : Option FieldType))
theorem kJ7_rangeCheck_23922 : Cond.code mJ7_rangeCheck_23922.1 mJ7_rangeCheck_23922.2.1 mJ7_rangeCheck_23922.2.2.1 mJ7_rangeCheck_23922.2.2.2 ∈ az_tbl := tw_1091
abbrev mX1_addNight : az_Me := (({ cls := "LetterNights$Futures", name := "addNight", desc := "(II)V" } : Jvm.MethodName), prog_3_method_8_code, 11, (none : Option FieldType))
theorem kX1_addNight : Cond.code mX1_addNight.1 mX1_addNight.2.1 mX1_addNight.2.2.1 mX1_addNight.2.2.2 ∈ az_tbl := tw_1095
abbrev mX11_way : az_Me := (({ cls := "LetterNights", name := "way", desc := "(JI)I" } : Jvm.MethodName), prog_1_method_30_code, 5, (some FieldType.int : Option FieldType))
theorem kX11_way : Cond.code mX11_way.1 mX11_way.2.1 mX11_way.2.2.1 mX11_way.2.2.2 ∈ az_tbl := tw_1099
abbrev mX1_tableInRow : az_Me := (({ cls := "LetterNights$Futures", name := "tableInRow", desc := "(I)I" } : Jvm.MethodName), prog_3_method_3_code, 2, (some FieldType.int : Option FieldType))
theorem kX1_tableInRow : Cond.code mX1_tableInRow.1 mX1_tableInRow.2.1 mX1_tableInRow.2.2.1 mX1_tableInRow.2.2.2 ∈ az_tbl := tw_1103
abbrev mX11_rows : az_Me := (({ cls := "LetterNights", name := "rows", desc := "(JI)I" } : Jvm.MethodName), prog_1_method_31_code, 4, (some FieldType.int : Option FieldType))
theorem kX11_rows : Cond.code mX11_rows.1 mX11_rows.2.1 mX11_rows.2.2.1 mX11_rows.2.2.2 ∈ az_tbl := tw_1107
abbrev mX1_rowsOf : az_Me := (({ cls := "LetterNights$Futures", name := "rowsOf", desc := "(LLetterNights$Scene;JI)I" } : Jvm.MethodName), prog_3_method_12_code, 5, (some FieldType.int : Option FieldType))
theorem kX1_rowsOf : Cond.code mX1_rowsOf.1 mX1_rowsOf.2.1 mX1_rowsOf.2.2.1 mX1_rowsOf.2.2.2 ∈ az_tbl := tw_1111
abbrev mX1_rowsFrom : az_Me := (({ cls := "LetterNights$Futures", name := "rowsFrom", desc := "(JII)I" } : Jvm.MethodName), prog_3_method_13_code, 7, (some FieldType.int : Option FieldType))
theorem kX1_rowsFrom : Cond.code mX1_rowsFrom.1 mX1_rowsFrom.2.1 mX1_rowsFrom.2.2.1 mX1_rowsFrom.2.2.2 ∈ az_tbl := tw_1115
abbrev mX11_longBy : az_Me := (({ cls := "LetterNights", name := "longBy", desc := "(I)I" } : Jvm.MethodName), prog_1_method_32_code, 3, (some FieldType.int : Option FieldType))
theorem kX11_longBy : Cond.code mX11_longBy.1 mX11_longBy.2.1 mX11_longBy.2.2.1 mX11_longBy.2.2.2 ∈ az_tbl := tw_1119
abbrev mX11_refusalOfLengths : az_Me := (({ cls := "LetterNights", name := "refusalOfLengths", desc := "(IJ)I" } : Jvm.MethodName), prog_1_method_54_code, 7, (some FieldType.int : Option FieldType))
theorem kX11_refusalOfLengths : Cond.code mX11_refusalOfLengths.1 mX11_refusalOfLengths.2.1 mX11_refusalOfLengths.2.2.1 mX11_refusalOfLengths.2.2.2 ∈ az_tbl := tw_1123
abbrev mX1_rowsOfLong : az_Me := (({ cls := "LetterNights$Futures", name := "rowsOfLong", desc := "(LLetterNights$Scene;LLetterNights$Tray;)I" } : Jvm.MethodName), prog_3_method_14_code, 3, (some FieldType.int : Option FieldType))
theorem kX1_rowsOfLong : Cond.code mX1_rowsOfLong.1 mX1_rowsOfLong.2.1 mX1_rowsOfLong.2.2.1 mX1_rowsOfLong.2.2.2 ∈ az_tbl := tw_1127
abbrev mX1_longFrom : az_Me := (({ cls := "LetterNights$Futures", name := "longFrom", desc := "(LLetterNights$Tray;I)I" } : Jvm.MethodName), prog_3_method_15_code, 9, (some FieldType.int : Option FieldType))
theorem kX1_longFrom : Cond.code mX1_longFrom.1 mX1_longFrom.2.1 mX1_longFrom.2.2.1 mX1_longFrom.2.2.2 ∈ az_tbl := tw_1132
abbrev mX1_tallyNext : az_Me := (({ cls := "LetterNights$Futures", name := "tallyNext", desc := "(I)V" } : Jvm.MethodName), prog_3_method_16_code, 3, (none : Option FieldType))
theorem kX1_tallyNext : Cond.code mX1_tallyNext.1 mX1_tallyNext.2.1 mX1_tallyNext.2.2.1 mX1_tallyNext.2.2.2 ∈ az_tbl := tw_1138
abbrev mX8_add : az_Me := (({ cls := "LetterNights$Tally", name := "add", desc := "(JI)V" } : Jvm.MethodName), prog_10_method_3_code, 8, (none : Option FieldType))
theorem kX8_add : Cond.code mX8_add.1 mX8_add.2.1 mX8_add.2.2.1 mX8_add.2.2.2 ∈ az_tbl := tw_1142
abbrev mX8_slotOf : az_Me := (({ cls := "LetterNights$Tally", name := "slotOf", desc := "(J)I" } : Jvm.MethodName), prog_10_method_4_code, 3, (some FieldType.int : Option FieldType))
theorem kX8_slotOf : Cond.code mX8_slotOf.1 mX8_slotOf.2.1 mX8_slotOf.2.2.1 mX8_slotOf.2.2.2 ∈ az_tbl := tw_1147
abbrev mX11_tables : az_Me := (({ cls := "LetterNights", name := "tables", desc := "(II)I" } : Jvm.MethodName), prog_1_method_33_code, 4, (some FieldType.int : Option FieldType))
theorem kX11_tables : Cond.code mX11_tables.1 mX11_tables.2.1 mX11_tables.2.2.1 mX11_tables.2.2.2 ∈ az_tbl := tw_1153
abbrev mX1_tablesSeen : az_Me := (({ cls := "LetterNights$Futures", name := "tablesSeen", desc := "(I)I" } : Jvm.MethodName), prog_3_method_4_code, 2, (some FieldType.int : Option FieldType))
theorem kX1_tablesSeen : Cond.code mX1_tablesSeen.1 mX1_tablesSeen.2.1 mX1_tablesSeen.2.2.1 mX1_tablesSeen.2.2.2 ∈ az_tbl := tw_1157
abbrev mX11_moons : az_Me := (({ cls := "LetterNights", name := "moons", desc := "(I)I" } : Jvm.MethodName), prog_1_method_34_code, 5, (some FieldType.int : Option FieldType))
theorem kX11_moons : Cond.code mX11_moons.1 mX11_moons.2.1 mX11_moons.2.2.1 mX11_moons.2.2.2 ∈ az_tbl := tw_1161
abbrev mX11_isOfItself : az_Me := (({ cls := "LetterNights", name := "isOfItself", desc := "(LLetterNights$Tray;)Z" } : Jvm.MethodName), prog_1_method_35_code, 3, (some FieldType.boolean : Option FieldType))
theorem kX11_isOfItself : Cond.code mX11_isOfItself.1 mX11_isOfItself.2.1 mX11_isOfItself.2.2.1 mX11_isOfItself.2.2.2 ∈ az_tbl := tw_1165
abbrev mX11_attempt : az_Me := (({ cls := "LetterNights", name := "attempt", desc := "(I)I" } : Jvm.MethodName), prog_1_method_36_code, 3, (some FieldType.int : Option FieldType))
theorem kX11_attempt : Cond.code mX11_attempt.1 mX11_attempt.2.1 mX11_attempt.2.2.1 mX11_attempt.2.2.2 ∈ az_tbl := tw_1169
abbrev mX1_tableToTry : az_Me := (({ cls := "LetterNights$Futures", name := "tableToTry", desc := "(LLetterNights$Scene;LLetterNights$Tray;)I" } : Jvm.MethodName), prog_3_method_17_code, 6, (some FieldType.int : Option FieldType))
theorem kX1_tableToTry : Cond.code mX1_tableToTry.1 mX1_tableToTry.2.1 mX1_tableToTry.2.2.1 mX1_tableToTry.2.2.2 ∈ az_tbl := tw_1173
abbrev mX8_clear : az_Me := (({ cls := "LetterNights$Tally", name := "clear", desc := "(I)V" } : Jvm.MethodName), prog_10_method_2_code, 3, (none : Option FieldType))
theorem kX8_clear : Cond.code mX8_clear.1 mX8_clear.2.1 mX8_clear.2.2.1 mX8_clear.2.2.2 ∈ az_tbl := tw_1178
abbrev mJ7_fill_fda19 : az_Me := (({ cls := "java/util/Arrays", name := "fill", desc := "([IIII)V" } : Jvm.MethodName), prog_22_method_104_code, 5, (none : Option FieldType))
theorem kJ7_fill_fda19 : Cond.code mJ7_fill_fda19.1 mJ7_fill_fda19.2.1 mJ7_fill_fda19.2.2.1 mJ7_fill_fda19.2.2.2 ∈ az_tbl := tw_1181
abbrev mX8_greatest : az_Me := (({ cls := "LetterNights$Tally", name := "greatest", desc := "(I)I" } : Jvm.MethodName), prog_10_method_5_code, 2, (some FieldType.int : Option FieldType))
theorem kX8_greatest : Cond.code mX8_greatest.1 mX8_greatest.2.1 mX8_greatest.2.2.1 mX8_greatest.2.2.2 ∈ az_tbl := tw_1186
abbrev mX11_turned : az_Me := (({ cls := "LetterNights", name := "turned", desc := "(I)J" } : Jvm.MethodName), prog_1_method_37_code, 2, (some FieldType.long : Option FieldType))
theorem kX11_turned : Cond.code mX11_turned.1 mX11_turned.2.1 mX11_turned.2.2.1 mX11_turned.2.2.2 ∈ az_tbl := tw_1190
abbrev mX1_spanOfTurns : az_Me := (({ cls := "LetterNights$Futures", name := "spanOfTurns", desc := "(LLetterNights$Scene;I)J" } : Jvm.MethodName), prog_3_method_18_code, 3, (some FieldType.long : Option FieldType))
theorem kX1_spanOfTurns : Cond.code mX1_spanOfTurns.1 mX1_spanOfTurns.2.1 mX1_spanOfTurns.2.2.1 mX1_spanOfTurns.2.2.2 ∈ az_tbl := tw_1194
abbrev mX1_spanByTurns : az_Me := (({ cls := "LetterNights$Futures", name := "spanByTurns", desc := "(II)J" } : Jvm.MethodName), prog_3_method_19_code, 10, (some FieldType.long : Option FieldType))
theorem kX1_spanByTurns : Cond.code mX1_spanByTurns.1 mX1_spanByTurns.2.1 mX1_spanByTurns.2.2.1 mX1_spanByTurns.2.2.2 ∈ az_tbl := tw_1198
abbrev mX11_best : az_Me := (({ cls := "LetterNights", name := "best", desc := "(I)I" } : Jvm.MethodName), prog_1_method_38_code, 2, (some FieldType.int : Option FieldType))
theorem kX11_best : Cond.code mX11_best.1 mX11_best.2.1 mX11_best.2.2.1 mX11_best.2.2.2 ∈ az_tbl := tw_1202
abbrev mX11_chance : az_Me := (({ cls := "LetterNights", name := "chance", desc := "(II)I" } : Jvm.MethodName), prog_1_method_39_code, 5, (some FieldType.int : Option FieldType))
theorem kX11_chance : Cond.code mX11_chance.1 mX11_chance.2.1 mX11_chance.2.2.1 mX11_chance.2.2.2 ∈ az_tbl := tw_1206
abbrev mX1_rowsOfNothing : az_Me := (({ cls := "LetterNights$Futures", name := "rowsOfNothing", desc := "(LLetterNights$Scene;I)J" } : Jvm.MethodName), prog_3_method_21_code, 5, (some FieldType.long : Option FieldType))
theorem kX1_rowsOfNothing : Cond.code mX1_rowsOfNothing.1 mX1_rowsOfNothing.2.1 mX1_rowsOfNothing.2.2.1 mX1_rowsOfNothing.2.2.2 ∈ az_tbl := tw_1210
abbrev mX1_spreadWays : az_Me := (({ cls := "LetterNights$Futures", name := "spreadWays", desc := "(LLetterNights$Town;I)V" } : Jvm.MethodName), prog_3_method_22_code, 4, (none : Option FieldType))
theorem kX1_spreadWays : Cond.code mX1_spreadWays.1 mX1_spreadWays.2.1 mX1_spreadWays.2.2.1 mX1_spreadWays.2.2.2 ∈ az_tbl := tw_1215
abbrev mX1_rowsInAll : az_Me := (({ cls := "LetterNights$Futures", name := "rowsInAll", desc := "(LLetterNights$Scene;I)J" } : Jvm.MethodName), prog_3_method_20_code, 6, (some FieldType.long : Option FieldType))
theorem kX1_rowsInAll : Cond.code mX1_rowsInAll.1 mX1_rowsInAll.2.1 mX1_rowsInAll.2.2.1 mX1_rowsInAll.2.2.2 ∈ az_tbl := tw_1220
abbrev mX11_lowestTerm : az_Me := (({ cls := "LetterNights", name := "lowestTerm", desc := "(JJI)J" } : Jvm.MethodName), prog_1_method_41_code, 12, (some FieldType.long : Option FieldType))
theorem kX11_lowestTerm : Cond.code mX11_lowestTerm.1 mX11_lowestTerm.2.1 mX11_lowestTerm.2.2.1 mX11_lowestTerm.2.2.2 ∈ az_tbl := tw_1223
abbrev mX11_mean : az_Me := (({ cls := "LetterNights", name := "mean", desc := "(II)J" } : Jvm.MethodName), prog_1_method_40_code, 5, (some FieldType.long : Option FieldType))
theorem kX11_mean : Cond.code mX11_mean.1 mX11_mean.2.1 mX11_mean.2.2.1 mX11_mean.2.2.2 ∈ az_tbl := tw_1227
abbrev mX1_spanOfAllRows : az_Me := (({ cls := "LetterNights$Futures", name := "spanOfAllRows", desc := "(LLetterNights$Scene;I)J" } : Jvm.MethodName), prog_3_method_23_code, 6, (some FieldType.long : Option FieldType))
theorem kX1_spanOfAllRows : Cond.code mX1_spanOfAllRows.1 mX1_spanOfAllRows.2.1 mX1_spanOfAllRows.2.2.1 mX1_spanOfAllRows.2.2.2 ∈ az_tbl := tw_1231
abbrev mX11_numbers : az_Me := (({ cls := "LetterNights", name := "numbers", desc := "(III)I" } : Jvm.MethodName), prog_1_method_42_code, 4, (some FieldType.int : Option FieldType))
theorem kX11_numbers : Cond.code mX11_numbers.1 mX11_numbers.2.1 mX11_numbers.2.2.1 mX11_numbers.2.2.2 ∈ az_tbl := tw_1236
abbrev mX10_lay : az_Me := (({ cls := "LetterNights$Tray", name := "lay", desc := "(II)V" } : Jvm.MethodName), prog_12_method_3_code, 3, (none : Option FieldType))
theorem kX10_lay : Cond.code mX10_lay.1 mX10_lay.2.1 mX10_lay.2.2.1 mX10_lay.2.2.2 ∈ az_tbl := tw_1240
abbrev mX11_write : az_Me := (({ cls := "LetterNights", name := "write", desc := "(IIJ)J" } : Jvm.MethodName), prog_1_method_43_code, 6, (some FieldType.long : Option FieldType))
theorem kX11_write : Cond.code mX11_write.1 mX11_write.2.1 mX11_write.2.2.1 mX11_write.2.2.2 ∈ az_tbl := tw_1247
abbrev mX10_put : az_Me := (({ cls := "LetterNights$Tray", name := "put", desc := "(IJ)V" } : Jvm.MethodName), prog_12_method_5_code, 4, (none : Option FieldType))
theorem kX10_put : Cond.code mX10_put.1 mX10_put.2.1 mX10_put.2.2.1 mX10_put.2.2.2 ∈ az_tbl := tw_1252
abbrev mX10_cut : az_Me := (({ cls := "LetterNights$Tray", name := "cut", desc := "(J)J" } : Jvm.MethodName), prog_12_method_6_code, 3, (some FieldType.long : Option FieldType))
theorem kX10_cut : Cond.code mX10_cut.1 mX10_cut.2.1 mX10_cut.2.2.1 mX10_cut.2.2.2 ∈ az_tbl := tw_1256
abbrev mX11_lists : az_Me := (({ cls := "LetterNights", name := "lists", desc := "(IJ)I" } : Jvm.MethodName), prog_1_method_44_code, 8, (some FieldType.int : Option FieldType))
theorem kX11_lists : Cond.code mX11_lists.1 mX11_lists.2.1 mX11_lists.2.2.1 mX11_lists.2.2.2 ∈ az_tbl := tw_1260
abbrev mX11_image : az_Me := (({ cls := "LetterNights", name := "image", desc := "(I)I" } : Jvm.MethodName), prog_1_method_45_code, 2, (some FieldType.int : Option FieldType))
theorem kX11_image : Cond.code mX11_image.1 mX11_image.2.1 mX11_image.2.2.1 mX11_image.2.2.2 ∈ az_tbl := tw_1265
abbrev mX11_restore : az_Me := (({ cls := "LetterNights", name := "restore", desc := "(I)I" } : Jvm.MethodName), prog_1_method_46_code, 2, (some FieldType.int : Option FieldType))
theorem kX11_restore : Cond.code mX11_restore.1 mX11_restore.2.1 mX11_restore.2.2.1 mX11_restore.2.2.2 ∈ az_tbl := tw_1269
abbrev mX11_told : az_Me := (({ cls := "LetterNights", name := "told", desc := "(I)I" } : Jvm.MethodName), prog_1_method_47_code, 2, (some FieldType.int : Option FieldType))
theorem kX11_told : Cond.code mX11_told.1 mX11_told.2.1 mX11_told.2.2.1 mX11_told.2.2.2 ∈ az_tbl := tw_1273
abbrev mX12_init : az_Me := (({ cls := "LetterNightsModel", name := "<init>", desc := "()V" } : Jvm.MethodName), prog_14_method_3_code, 1, (none : Option FieldType))
theorem kX12_init : Cond.code mX12_init.1 mX12_init.2.1 mX12_init.2.2.1 mX12_init.2.2.2 ∈ az_tbl := tw_1279
abbrev mX12_plain : az_Me := (({ cls := "LetterNightsModel", name := "plain", desc := "([I)V" } : Jvm.MethodName), prog_14_method_4_code, 2, (none : Option FieldType))
theorem kX12_plain : Cond.code mX12_plain.1 mX12_plain.2.1 mX12_plain.2.2.1 mX12_plain.2.2.2 ∈ az_tbl := tw_1283
abbrev mX12_feed : az_Me := (({ cls := "LetterNightsModel", name := "feed", desc := "(IIIII)I" } : Jvm.MethodName), prog_14_method_5_code, 8, (some FieldType.int : Option FieldType))
theorem kX12_feed : Cond.code mX12_feed.1 mX12_feed.2.1 mX12_feed.2.2.1 mX12_feed.2.2.2 ∈ az_tbl := tw_1424
abbrev mX12_street : az_Me := (({ cls := "LetterNightsModel", name := "street", desc := "(I)I" } : Jvm.MethodName), prog_14_method_33_code, 3, (some FieldType.int : Option FieldType))
theorem kX12_street : Cond.code mX12_street.1 mX12_street.2.1 mX12_street.2.2.1 mX12_street.2.2.2 ∈ az_tbl := tw_1428
abbrev mX12_within : az_Me := (({ cls := "LetterNightsModel", name := "within", desc := "(JJJ)Z" } : Jvm.MethodName), prog_14_method_2_code, 6, (some FieldType.boolean : Option FieldType))
theorem kX12_within : Cond.code mX12_within.1 mX12_within.2.1 mX12_within.2.2.1 mX12_within.2.2.2 ∈ az_tbl := tw_1431
abbrev mX12_next : az_Me := (({ cls := "LetterNightsModel", name := "next", desc := "()V" } : Jvm.MethodName), prog_14_method_10_code, 2, (none : Option FieldType))
theorem kX12_next : Cond.code mX12_next.1 mX12_next.2.1 mX12_next.2.2.1 mX12_next.2.2.2 ∈ az_tbl := tw_1435
abbrev mX12_see : az_Me := (({ cls := "LetterNightsModel", name := "see", desc := "(I)I" } : Jvm.MethodName), prog_14_method_6_code, 2, (some FieldType.int : Option FieldType))
theorem kX12_see : Cond.code mX12_see.1 mX12_see.2.1 mX12_see.2.2.1 mX12_see.2.2.2 ∈ az_tbl := tw_1439
abbrev mX12_isSmall : az_Me := (({ cls := "LetterNightsModel", name := "isSmall", desc := "(I)Z" } : Jvm.MethodName), prog_14_method_7_code, 1, (some FieldType.boolean : Option FieldType))
theorem kX12_isSmall : Cond.code mX12_isSmall.1 mX12_isSmall.2.1 mX12_isSmall.2.2.1 mX12_isSmall.2.2.2 ∈ az_tbl := tw_1442
abbrev mX12_keyAt : az_Me := (({ cls := "LetterNightsModel", name := "keyAt", desc := "()I" } : Jvm.MethodName), prog_14_method_9_code, 4, (some FieldType.int : Option FieldType))
theorem kX12_keyAt : Cond.code mX12_keyAt.1 mX12_keyAt.2.1 mX12_keyAt.2.2.1 mX12_keyAt.2.2.2 ∈ az_tbl := tw_1446
abbrev mX12_isDigit : az_Me := (({ cls := "LetterNightsModel", name := "isDigit", desc := "(I)Z" } : Jvm.MethodName), prog_14_method_8_code, 1, (some FieldType.boolean : Option FieldType))
theorem kX12_isDigit : Cond.code mX12_isDigit.1 mX12_isDigit.2.1 mX12_isDigit.2.2.1 mX12_isDigit.2.2.2 ∈ az_tbl := tw_1452
abbrev mX12_eats : az_Me := (({ cls := "LetterNightsModel", name := "eats", desc := "(I)Z" } : Jvm.MethodName), prog_14_method_13_code, 2, (some FieldType.boolean : Option FieldType))
theorem kX12_eats : Cond.code mX12_eats.1 mX12_eats.2.1 mX12_eats.2.2.1 mX12_eats.2.2.2 ∈ az_tbl := tw_1457
abbrev mX12_is : az_Me := (({ cls := "LetterNightsModel", name := "is", desc := "(I)Z" } : Jvm.MethodName), prog_14_method_12_code, 2, (some FieldType.boolean : Option FieldType))
theorem kX12_is : Cond.code mX12_is.1 mX12_is.2.1 mX12_is.2.2.1 mX12_is.2.2.2 ∈ az_tbl := tw_1461
abbrev mX12_fails : az_Me := (({ cls := "LetterNightsModel", name := "fails", desc := "(I)V" } : Jvm.MethodName), prog_14_method_11_code, 2, (none : Option FieldType))
theorem kX12_fails : Cond.code mX12_fails.1 mX12_fails.2.1 mX12_fails.2.2.1 mX12_fails.2.2.2 ∈ az_tbl := tw_1465
abbrev mX12_named : az_Me := (({ cls := "LetterNightsModel", name := "named", desc := "(III)I" } : Jvm.MethodName), prog_14_method_26_code, 4, (some FieldType.int : Option FieldType))
theorem kX12_named : Cond.code mX12_named.1 mX12_named.2.1 mX12_named.2.2.1 mX12_named.2.2.2 ∈ az_tbl := tw_1469
abbrev mX12_takes : az_Me := (({ cls := "LetterNightsModel", name := "takes", desc := "(II)I" } : Jvm.MethodName), prog_14_method_14_code, 4, (some FieldType.int : Option FieldType))
theorem kX12_takes : Cond.code mX12_takes.1 mX12_takes.2.1 mX12_takes.2.2.1 mX12_takes.2.2.2 ∈ az_tbl := tw_1473
abbrev mX12_closes : az_Me := (({ cls := "LetterNightsModel", name := "closes", desc := "()V" } : Jvm.MethodName), prog_14_method_32_code, 1, (none : Option FieldType))
theorem kX12_closes : Cond.code mX12_closes.1 mX12_closes.2.1 mX12_closes.2.2.1 mX12_closes.2.2.2 ∈ az_tbl := tw_1477
abbrev mX12_readLine : az_Me := (({ cls := "LetterNightsModel", name := "readLine", desc := "()V" } : Jvm.MethodName), prog_14_method_31_code, 1, (none : Option FieldType))
theorem kX12_readLine : Cond.code mX12_readLine.1 mX12_readLine.2.1 mX12_readLine.2.2.1 mX12_readLine.2.2.2 ∈ az_tbl := tw_1481
abbrev mX12_readStands : az_Me := (({ cls := "LetterNightsModel", name := "readStands", desc := "()V" } : Jvm.MethodName), prog_14_method_28_code, 3, (none : Option FieldType))
theorem kX12_readStands : Cond.code mX12_readStands.1 mX12_readStands.2.1 mX12_readStands.2.2.1 mX12_readStands.2.2.2 ∈ az_tbl := tw_1485
abbrev mX12_spells : az_Me := (({ cls := "LetterNightsModel", name := "spells", desc := "(I)I" } : Jvm.MethodName), prog_14_method_27_code, 5, (some FieldType.int : Option FieldType))
theorem kX12_spells : Cond.code mX12_spells.1 mX12_spells.2.1 mX12_spells.2.2.1 mX12_spells.2.2.2 ∈ az_tbl := tw_1489
abbrev mX12_readRule : az_Me := (({ cls := "LetterNightsModel", name := "readRule", desc := "()V" } : Jvm.MethodName), prog_14_method_29_code, 5, (none : Option FieldType))
theorem kX12_readRule : Cond.code mX12_readRule.1 mX12_readRule.2.1 mX12_readRule.2.2.1 mX12_readRule.2.2.2 ∈ az_tbl := tw_1493
abbrev mX12_readLaw : az_Me := (({ cls := "LetterNightsModel", name := "readLaw", desc := "(I)V" } : Jvm.MethodName), prog_14_method_30_code, 3, (none : Option FieldType))
theorem kX12_readLaw : Cond.code mX12_readLaw.1 mX12_readLaw.2.1 mX12_readLaw.2.2.1 mX12_readLaw.2.2.2 ∈ az_tbl := tw_1497
abbrev mX12_readSum : az_Me := (({ cls := "LetterNightsModel", name := "readSum", desc := "(I)V" } : Jvm.MethodName), prog_14_method_22_code, 3, (none : Option FieldType))
theorem kX12_readSum : Cond.code mX12_readSum.1 mX12_readSum.2.1 mX12_readSum.2.2.1 mX12_readSum.2.2.2 ∈ az_tbl := tw_1501
abbrev mX12_readTerm : az_Me := (({ cls := "LetterNightsModel", name := "readTerm", desc := "(I)V" } : Jvm.MethodName), prog_14_method_21_code, 2, (none : Option FieldType))
theorem kX12_readTerm : Cond.code mX12_readTerm.1 mX12_readTerm.2.1 mX12_readTerm.2.2.1 mX12_readTerm.2.2.2 ∈ az_tbl := tw_1505
abbrev mX12_readAtom : az_Me := (({ cls := "LetterNightsModel", name := "readAtom", desc := "(I)V" } : Jvm.MethodName), prog_14_method_19_code, 2, (none : Option FieldType))
theorem kX12_readAtom : Cond.code mX12_readAtom.1 mX12_readAtom.2.1 mX12_readAtom.2.2.1 mX12_readAtom.2.2.2 ∈ az_tbl := tw_1509
abbrev mX12_codes : az_Me := (({ cls := "LetterNightsModel", name := "codes", desc := "(I)V" } : Jvm.MethodName), prog_14_method_17_code, 2, (none : Option FieldType))
theorem kX12_codes : Cond.code mX12_codes.1 mX12_codes.2.1 mX12_codes.2.2.1 mX12_codes.2.2.2 ∈ az_tbl := tw_1513
abbrev mX12_wordOf : az_Me := (({ cls := "LetterNightsModel", name := "wordOf", desc := "(I)I" } : Jvm.MethodName), prog_14_method_16_code, 2, (some FieldType.int : Option FieldType))
theorem kX12_wordOf : Cond.code mX12_wordOf.1 mX12_wordOf.2.1 mX12_wordOf.2.2.1 mX12_wordOf.2.2.2 ∈ az_tbl := tw_1517
abbrev mX12_goesIn : az_Me := (({ cls := "LetterNightsModel", name := "goesIn", desc := "(I)Z" } : Jvm.MethodName), prog_14_method_18_code, 2, (some FieldType.boolean : Option FieldType))
theorem kX12_goesIn : Cond.code mX12_goesIn.1 mX12_goesIn.2.1 mX12_goesIn.2.2.1 mX12_goesIn.2.2.2 ∈ az_tbl := tw_1521
abbrev mX12_readIf : az_Me := (({ cls := "LetterNightsModel", name := "readIf", desc := "(I)V" } : Jvm.MethodName), prog_14_method_20_code, 2, (none : Option FieldType))
theorem kX12_readIf : Cond.code mX12_readIf.1 mX12_readIf.2.1 mX12_readIf.2.2.1 mX12_readIf.2.2.2 ∈ az_tbl := tw_1525
abbrev mX12_readTruth : az_Me := (({ cls := "LetterNightsModel", name := "readTruth", desc := "(I)V" } : Jvm.MethodName), prog_14_method_25_code, 2, (none : Option FieldType))
theorem kX12_readTruth : Cond.code mX12_readTruth.1 mX12_readTruth.2.1 mX12_readTruth.2.2.1 mX12_readTruth.2.2.2 ∈ az_tbl := tw_1529
abbrev mX12_readBoth : az_Me := (({ cls := "LetterNightsModel", name := "readBoth", desc := "(I)V" } : Jvm.MethodName), prog_14_method_24_code, 2, (none : Option FieldType))
theorem kX12_readBoth : Cond.code mX12_readBoth.1 mX12_readBoth.2.1 mX12_readBoth.2.2.1 mX12_readBoth.2.2.2 ∈ az_tbl := tw_1533
abbrev mX12_readUnit : az_Me := (({ cls := "LetterNightsModel", name := "readUnit", desc := "(I)V" } : Jvm.MethodName), prog_14_method_23_code, 3, (none : Option FieldType))
theorem kX12_readUnit : Cond.code mX12_readUnit.1 mX12_readUnit.2.1 mX12_readUnit.2.2.1 mX12_readUnit.2.2.2 ∈ az_tbl := tw_1537
abbrev mX12_fault : az_Me := (({ cls := "LetterNightsModel", name := "fault", desc := "(I)I" } : Jvm.MethodName), prog_14_method_34_code, 2, (some FieldType.int : Option FieldType))
theorem kX12_fault : Cond.code mX12_fault.1 mX12_fault.2.1 mX12_fault.2.2.1 mX12_fault.2.2.2 ∈ az_tbl := tw_1541
abbrev mX12_becomes : az_Me := (({ cls := "LetterNightsModel", name := "becomes", desc := "(III)I" } : Jvm.MethodName), prog_14_method_51_code, 4, (some FieldType.int : Option FieldType))
theorem kX12_becomes : Cond.code mX12_becomes.1 mX12_becomes.2.1 mX12_becomes.2.2.1 mX12_becomes.2.2.2 ∈ az_tbl := tw_1545
abbrev mX12_isTable : az_Me := (({ cls := "LetterNightsModel", name := "isTable", desc := "(I)Z" } : Jvm.MethodName), prog_14_method_36_code, 2, (some FieldType.boolean : Option FieldType))
theorem kX12_isTable : Cond.code mX12_isTable.1 mX12_isTable.2.1 mX12_isTable.2.2.1 mX12_isTable.2.2.2 ∈ az_tbl := tw_1549
abbrev mX12_isLetter : az_Me := (({ cls := "LetterNightsModel", name := "isLetter", desc := "(J)Z" } : Jvm.MethodName), prog_14_method_35_code, 2, (some FieldType.boolean : Option FieldType))
theorem kX12_isLetter : Cond.code mX12_isLetter.1 mX12_isLetter.2.1 mX12_isLetter.2.2.1 mX12_isLetter.2.2.2 ∈ az_tbl := tw_1552
abbrev mX12_becomeMany : az_Me := (({ cls := "LetterNightsModel", name := "becomeMany", desc := "(II)I" } : Jvm.MethodName), prog_14_method_37_code, 3, (some FieldType.int : Option FieldType))
theorem kX12_becomeMany : Cond.code mX12_becomeMany.1 mX12_becomeMany.2.1 mX12_becomeMany.2.2.1 mX12_becomeMany.2.2.2 ∈ az_tbl := tw_1557
abbrev mX12_becomeOf : az_Me := (({ cls := "LetterNightsModel", name := "becomeOf", desc := "(III)I" } : Jvm.MethodName), prog_14_method_38_code, 4, (some FieldType.int : Option FieldType))
theorem kX12_becomeOf : Cond.code mX12_becomeOf.1 mX12_becomeOf.2.1 mX12_becomeOf.2.2.1 mX12_becomeOf.2.2.2 ∈ az_tbl := tw_1561
abbrev mX12_picks : az_Me := (({ cls := "LetterNightsModel", name := "picks", desc := "()I" } : Jvm.MethodName), prog_14_method_52_code, 1, (some FieldType.int : Option FieldType))
theorem kX12_picks : Cond.code mX12_picks.1 mX12_picks.2.1 mX12_picks.2.2.1 mX12_picks.2.2.2 ∈ az_tbl := tw_1565
abbrev mX12_pickedNow : az_Me := (({ cls := "LetterNightsModel", name := "pickedNow", desc := "()I" } : Jvm.MethodName), prog_14_method_50_code, 4, (some FieldType.int : Option FieldType))
theorem kX12_pickedNow : Cond.code mX12_pickedNow.1 mX12_pickedNow.2.1 mX12_pickedNow.2.2.1 mX12_pickedNow.2.2.2 ∈ az_tbl := tw_1569
abbrev mX12_lengthNow : az_Me := (({ cls := "LetterNightsModel", name := "lengthNow", desc := "()J" } : Jvm.MethodName), prog_14_method_44_code, 1, (some FieldType.long : Option FieldType))
theorem kX12_lengthNow : Cond.code mX12_lengthNow.1 mX12_lengthNow.2.1 mX12_lengthNow.2.2.1 mX12_lengthNow.2.2.2 ∈ az_tbl := tw_1573
abbrev mX12_laysLong : az_Me := (({ cls := "LetterNightsModel", name := "laysLong", desc := "()V" } : Jvm.MethodName), prog_14_method_41_code, 2, (none : Option FieldType))
theorem kX12_laysLong : Cond.code mX12_laysLong.1 mX12_laysLong.2.1 mX12_laysLong.2.2.1 mX12_laysLong.2.2.2 ∈ az_tbl := tw_1577
abbrev mX12_laysBack : az_Me := (({ cls := "LetterNightsModel", name := "laysBack", desc := "([J)V" } : Jvm.MethodName), prog_14_method_40_code, 8, (none : Option FieldType))
theorem kX12_laysBack : Cond.code mX12_laysBack.1 mX12_laysBack.2.1 mX12_laysBack.2.2.1 mX12_laysBack.2.2.2 ∈ az_tbl := tw_1581
abbrev mX12_plus : az_Me := (({ cls := "LetterNightsModel", name := "plus", desc := "(JJ)J" } : Jvm.MethodName), prog_14_method_39_code, 4, (some FieldType.long : Option FieldType))
theorem kX12_plus : Cond.code mX12_plus.1 mX12_plus.2.1 mX12_plus.2.2.1 mX12_plus.2.2.2 ∈ az_tbl := tw_1584
abbrev mX12_sumOf : az_Me := (({ cls := "LetterNightsModel", name := "sumOf", desc := "([J)J" } : Jvm.MethodName), prog_14_method_43_code, 5, (some FieldType.long : Option FieldType))
theorem kX12_sumOf : Cond.code mX12_sumOf.1 mX12_sumOf.2.1 mX12_sumOf.2.2.1 mX12_sumOf.2.2.2 ∈ az_tbl := tw_1589
abbrev mX12_letterAt : az_Me := (({ cls := "LetterNightsModel", name := "letterAt", desc := "(J)I" } : Jvm.MethodName), prog_14_method_47_code, 4, (some FieldType.int : Option FieldType))
theorem kX12_letterAt : Cond.code mX12_letterAt.1 mX12_letterAt.2.1 mX12_letterAt.2.2.1 mX12_letterAt.2.2.2 ∈ az_tbl := tw_1593
abbrev mX12_comesTo : az_Me := (({ cls := "LetterNightsModel", name := "comesTo", desc := "(J)I" } : Jvm.MethodName), prog_14_method_46_code, 9, (some FieldType.int : Option FieldType))
theorem kX12_comesTo : Cond.code mX12_comesTo.1 mX12_comesTo.2.1 mX12_comesTo.2.2.1 mX12_comesTo.2.2.2 ∈ az_tbl := tw_1597
abbrev mX12_partOf : az_Me := (({ cls := "LetterNightsModel", name := "partOf", desc := "(III)I" } : Jvm.MethodName), prog_14_method_45_code, 5, (some FieldType.int : Option FieldType))
theorem kX12_partOf : Cond.code mX12_partOf.1 mX12_partOf.2.1 mX12_partOf.2.2.1 mX12_partOf.2.2.2 ∈ az_tbl := tw_1601
abbrev mX12_reckons : az_Me := (({ cls := "LetterNightsModel", name := "reckons", desc := "(I)I" } : Jvm.MethodName), prog_14_method_49_code, 5, (some FieldType.int : Option FieldType))
theorem kX12_reckons : Cond.code mX12_reckons.1 mX12_reckons.2.1 mX12_reckons.2.2.1 mX12_reckons.2.2.2 ∈ az_tbl := tw_1606
abbrev mX12_between : az_Me := (({ cls := "LetterNightsModel", name := "between", desc := "(III)I" } : Jvm.MethodName), prog_14_method_48_code, 5, (some FieldType.int : Option FieldType))
theorem kX12_between : Cond.code mX12_between.1 mX12_between.2.1 mX12_between.2.2.1 mX12_between.2.2.2 ∈ az_tbl := tw_1609
abbrev mX12_length : az_Me := (({ cls := "LetterNightsModel", name := "length", desc := "()J" } : Jvm.MethodName), prog_14_method_53_code, 1, (some FieldType.long : Option FieldType))
theorem kX12_length : Cond.code mX12_length.1 mX12_length.2.1 mX12_length.2.2.1 mX12_length.2.2.2 ∈ az_tbl := tw_1615
abbrev mX12_letter : az_Me := (({ cls := "LetterNightsModel", name := "letter", desc := "(J)I" } : Jvm.MethodName), prog_14_method_54_code, 3, (some FieldType.int : Option FieldType))
theorem kX12_letter : Cond.code mX12_letter.1 mX12_letter.2.1 mX12_letter.2.2.1 mX12_letter.2.2.2 ∈ az_tbl := tw_1619
abbrev mX12_count : az_Me := (({ cls := "LetterNightsModel", name := "count", desc := "(IJ)J" } : Jvm.MethodName), prog_14_method_55_code, 4, (some FieldType.long : Option FieldType))
theorem kX12_count : Cond.code mX12_count.1 mX12_count.2.1 mX12_count.2.2.1 mX12_count.2.2.2 ∈ az_tbl := tw_1623
abbrev mX12_laysOf : az_Me := (({ cls := "LetterNightsModel", name := "laysOf", desc := "(I)V" } : Jvm.MethodName), prog_14_method_42_code, 3, (none : Option FieldType))
theorem kX12_laysOf : Cond.code mX12_laysOf.1 mX12_laysOf.2.1 mX12_laysOf.2.2.1 mX12_laysOf.2.2.2 ∈ az_tbl := tw_1629
abbrev mX12_place : az_Me := (({ cls := "LetterNightsModel", name := "place", desc := "(IJ)J" } : Jvm.MethodName), prog_14_method_56_code, 12, (some FieldType.long : Option FieldType))
theorem kX12_place : Cond.code mX12_place.1 mX12_place.2.1 mX12_place.2.2.1 mX12_place.2.2.2 ∈ az_tbl := tw_1633
abbrev mX12_night : az_Me := (({ cls := "LetterNightsModel", name := "night", desc := "(I)J" } : Jvm.MethodName), prog_14_method_63_code, 3, (some FieldType.long : Option FieldType))
theorem kX12_night : Cond.code mX12_night.1 mX12_night.2.1 mX12_night.2.2.1 mX12_night.2.2.2 ∈ az_tbl := tw_1638
abbrev mX12_whyNight : az_Me := (({ cls := "LetterNightsModel", name := "whyNight", desc := "(J)I" } : Jvm.MethodName), prog_14_method_61_code, 3, (some FieldType.int : Option FieldType))
theorem kX12_whyNight : Cond.code mX12_whyNight.1 mX12_whyNight.2.1 mX12_whyNight.2.2.1 mX12_whyNight.2.2.2 ∈ az_tbl := tw_1642
abbrev mX12_longBehind : az_Me := (({ cls := "LetterNightsModel", name := "longBehind", desc := "(I)J" } : Jvm.MethodName), prog_14_method_60_code, 3, (some FieldType.long : Option FieldType))
theorem kX12_longBehind : Cond.code mX12_longBehind.1 mX12_longBehind.2.1 mX12_longBehind.2.2.1 mX12_longBehind.2.2.2 ∈ az_tbl := tw_1646
abbrev mX12_stores : az_Me := (({ cls := "LetterNightsModel", name := "stores", desc := "()V" } : Jvm.MethodName), prog_14_method_57_code, 2, (none : Option FieldType))
theorem kX12_stores : Cond.code mX12_stores.1 mX12_stores.2.1 mX12_stores.2.2.1 mX12_stores.2.2.2 ∈ az_tbl := tw_1651
abbrev mX12_goesNight : az_Me := (({ cls := "LetterNightsModel", name := "goesNight", desc := "()V" } : Jvm.MethodName), prog_14_method_62_code, 1, (none : Option FieldType))
theorem kX12_goesNight : Cond.code mX12_goesNight.1 mX12_goesNight.2.1 mX12_goesNight.2.2.1 mX12_goesNight.2.2.2 ∈ az_tbl := tw_1655
abbrev mX12_notes : az_Me := (({ cls := "LetterNightsModel", name := "notes", desc := "()V" } : Jvm.MethodName), prog_14_method_59_code, 2, (none : Option FieldType))
theorem kX12_notes : Cond.code mX12_notes.1 mX12_notes.2.1 mX12_notes.2.2.1 mX12_notes.2.2.2 ∈ az_tbl := tw_1659
abbrev mX12_nights : az_Me := (({ cls := "LetterNightsModel", name := "nights", desc := "(I)I" } : Jvm.MethodName), prog_14_method_64_code, 3, (some FieldType.int : Option FieldType))
theorem kX12_nights : Cond.code mX12_nights.1 mX12_nights.2.1 mX12_nights.2.2.1 mX12_nights.2.2.2 ∈ az_tbl := tw_1663
abbrev mX12_moon : az_Me := (({ cls := "LetterNightsModel", name := "moon", desc := "(I)I" } : Jvm.MethodName), prog_14_method_65_code, 2, (some FieldType.int : Option FieldType))
theorem kX12_moon : Cond.code mX12_moon.1 mX12_moon.2.1 mX12_moon.2.2.1 mX12_moon.2.2.2 ∈ az_tbl := tw_1668
abbrev mX12_undo : az_Me := (({ cls := "LetterNightsModel", name := "undo", desc := "(I)I" } : Jvm.MethodName), prog_14_method_66_code, 3, (some FieldType.int : Option FieldType))
theorem kX12_undo : Cond.code mX12_undo.1 mX12_undo.2.1 mX12_undo.2.2.1 mX12_undo.2.2.2 ∈ az_tbl := tw_1673
abbrev mX12_judge : az_Me := (({ cls := "LetterNightsModel", name := "judge", desc := "(II)I" } : Jvm.MethodName), prog_14_method_73_code, 7, (some FieldType.int : Option FieldType))
theorem kX12_judge : Cond.code mX12_judge.1 mX12_judge.2.1 mX12_judge.2.2.1 mX12_judge.2.2.2 ∈ az_tbl := tw_1677
abbrev mX12_noTray : az_Me := (({ cls := "LetterNightsModel", name := "noTray", desc := "(I)I" } : Jvm.MethodName), prog_14_method_70_code, 2, (some FieldType.int : Option FieldType))
theorem kX12_noTray : Cond.code mX12_noTray.1 mX12_noTray.2.1 mX12_noTray.2.2.1 mX12_noTray.2.2.2 ∈ az_tbl := tw_1682
abbrev mX12_storesBy : az_Me := (({ cls := "LetterNightsModel", name := "storesBy", desc := "()V" } : Jvm.MethodName), prog_14_method_71_code, 2, (none : Option FieldType))
theorem kX12_storesBy : Cond.code mX12_storesBy.1 mX12_storesBy.2.1 mX12_storesBy.2.2.1 mX12_storesBy.2.2.2 ∈ az_tbl := tw_1686
abbrev mX12_tells : az_Me := (({ cls := "LetterNightsModel", name := "tells", desc := "(I)I" } : Jvm.MethodName), prog_14_method_69_code, 3, (some FieldType.int : Option FieldType))
theorem kX12_tells : Cond.code mX12_tells.1 mX12_tells.2.1 mX12_tells.2.2.1 mX12_tells.2.2.2 ∈ az_tbl := tw_1690
abbrev mX12_whyNot : az_Me := (({ cls := "LetterNightsModel", name := "whyNot", desc := "(J)I" } : Jvm.MethodName), prog_14_method_67_code, 3, (some FieldType.int : Option FieldType))
theorem kX12_whyNot : Cond.code mX12_whyNot.1 mX12_whyNot.2.1 mX12_whyNot.2.2.1 mX12_whyNot.2.2.2 ∈ az_tbl := tw_1694
abbrev mX12_does : az_Me := (({ cls := "LetterNightsModel", name := "does", desc := "(I)V" } : Jvm.MethodName), prog_14_method_68_code, 2, (none : Option FieldType))
theorem kX12_does : Cond.code mX12_does.1 mX12_does.2.1 mX12_does.2.2.1 mX12_does.2.2.2 ∈ az_tbl := tw_1699
abbrev mX12_isAgain : az_Me := (({ cls := "LetterNightsModel", name := "isAgain", desc := "()V" } : Jvm.MethodName), prog_14_method_58_code, 2, (none : Option FieldType))
theorem kX12_isAgain : Cond.code mX12_isAgain.1 mX12_isAgain.2.1 mX12_isAgain.2.2.1 mX12_isAgain.2.2.2 ∈ az_tbl := tw_1703
abbrev mX12_isAgainBy : az_Me := (({ cls := "LetterNightsModel", name := "isAgainBy", desc := "()V" } : Jvm.MethodName), prog_14_method_72_code, 2, (none : Option FieldType))
theorem kX12_isAgainBy : Cond.code mX12_isAgainBy.1 mX12_isAgainBy.2.1 mX12_isAgainBy.2.2.1 mX12_isAgainBy.2.2.2 ∈ az_tbl := tw_1707
abbrev mX12_perform : az_Me := (({ cls := "LetterNightsModel", name := "perform", desc := "(I)I" } : Jvm.MethodName), prog_14_method_74_code, 4, (some FieldType.int : Option FieldType))
theorem kX12_perform : Cond.code mX12_perform.1 mX12_perform.2.1 mX12_perform.2.2.1 mX12_perform.2.2.2 ∈ az_tbl := tw_1711
abbrev mX12_year : az_Me := (({ cls := "LetterNightsModel", name := "year", desc := "(II)I" } : Jvm.MethodName), prog_14_method_77_code, 6, (some FieldType.int : Option FieldType))
theorem kX12_year : Cond.code mX12_year.1 mX12_year.2.1 mX12_year.2.2.1 mX12_year.2.2.2 ∈ az_tbl := tw_1715
abbrev mX12_drawn : az_Me := (({ cls := "LetterNightsModel", name := "drawn", desc := "()I" } : Jvm.MethodName), prog_14_method_76_code, 2, (some FieldType.int : Option FieldType))
theorem kX12_drawn : Cond.code mX12_drawn.1 mX12_drawn.2.1 mX12_drawn.2.2.1 mX12_drawn.2.2.2 ∈ az_tbl := tw_1720
abbrev mX12_draw : az_Me := (({ cls := "LetterNightsModel", name := "draw", desc := "(I)I" } : Jvm.MethodName), prog_14_method_75_code, 2, (some FieldType.int : Option FieldType))
theorem kX12_draw : Cond.code mX12_draw.1 mX12_draw.2.1 mX12_draw.2.2.1 mX12_draw.2.2.2 ∈ az_tbl := tw_1724
abbrev mX12_occurs : az_Me := (({ cls := "LetterNightsModel", name := "occurs", desc := "(I)J" } : Jvm.MethodName), prog_14_method_82_code, 8, (some FieldType.long : Option FieldType))
theorem kX12_occurs : Cond.code mX12_occurs.1 mX12_occurs.2.1 mX12_occurs.2.2.1 mX12_occurs.2.2.2 ∈ az_tbl := tw_1729
abbrev mX12_noWord : az_Me := (({ cls := "LetterNightsModel", name := "noWord", desc := "(I)I" } : Jvm.MethodName), prog_14_method_78_code, 4, (some FieldType.int : Option FieldType))
theorem kX12_noWord : Cond.code mX12_noWord.1 mX12_noWord.2.1 mX12_noWord.2.2.1 mX12_noWord.2.2.2 ∈ az_tbl := tw_1733
abbrev mX12_laysSpelling : az_Me := (({ cls := "LetterNightsModel", name := "laysSpelling", desc := "(I)V" } : Jvm.MethodName), prog_14_method_79_code, 3, (none : Option FieldType))
theorem kX12_laysSpelling : Cond.code mX12_laysSpelling.1 mX12_laysSpelling.2.1 mX12_laysSpelling.2.2.1 mX12_laysSpelling.2.2.2 ∈ az_tbl := tw_1738
abbrev mX12_laysHits : az_Me := (({ cls := "LetterNightsModel", name := "laysHits", desc := "()V" } : Jvm.MethodName), prog_14_method_81_code, 9, (none : Option FieldType))
theorem kX12_laysHits : Cond.code mX12_laysHits.1 mX12_laysHits.2.1 mX12_laysHits.2.2.1 mX12_laysHits.2.2.2 ∈ az_tbl := tw_1742
abbrev mX12_isRead : az_Me := (({ cls := "LetterNightsModel", name := "isRead", desc := "(III)Z" } : Jvm.MethodName), prog_14_method_80_code, 5, (some FieldType.boolean : Option FieldType))
theorem kX12_isRead : Cond.code mX12_isRead.1 mX12_isRead.2.1 mX12_isRead.2.2.1 mX12_isRead.2.2.2 ∈ az_tbl := tw_1746
abbrev mX12_first : az_Me := (({ cls := "LetterNightsModel", name := "first", desc := "(I)J" } : Jvm.MethodName), prog_14_method_83_code, 10, (some FieldType.long : Option FieldType))
theorem kX12_first : Cond.code mX12_first.1 mX12_first.2.1 mX12_first.2.2.1 mX12_first.2.2.2 ∈ az_tbl := tw_1750
abbrev mX12_backs : az_Me := (({ cls := "LetterNightsModel", name := "backs", desc := "(II)I" } : Jvm.MethodName), prog_14_method_87_code, 4, (some FieldType.int : Option FieldType))
theorem kX12_backs : Cond.code mX12_backs.1 mX12_backs.2.1 mX12_backs.2.2.1 mX12_backs.2.2.2 ∈ az_tbl := tw_1754
abbrev mX12_noBack : az_Me := (({ cls := "LetterNightsModel", name := "noBack", desc := "(II)I" } : Jvm.MethodName), prog_14_method_86_code, 3, (some FieldType.int : Option FieldType))
theorem kX12_noBack : Cond.code mX12_noBack.1 mX12_noBack.2.1 mX12_noBack.2.2.1 mX12_noBack.2.2.2 ∈ az_tbl := tw_1758
abbrev mX12_laysBacks : az_Me := (({ cls := "LetterNightsModel", name := "laysBacks", desc := "(II)I" } : Jvm.MethodName), prog_14_method_85_code, 5, (some FieldType.int : Option FieldType))
theorem kX12_laysBacks : Cond.code mX12_laysBacks.1 mX12_laysBacks.2.1 mX12_laysBacks.2.2.1 mX12_laysBacks.2.2.2 ∈ az_tbl := tw_1762
abbrev mX12_isBack : az_Me := (({ cls := "LetterNightsModel", name := "isBack", desc := "(III)Z" } : Jvm.MethodName), prog_14_method_84_code, 6, (some FieldType.boolean : Option FieldType))
theorem kX12_isBack : Cond.code mX12_isBack.1 mX12_isBack.2.1 mX12_isBack.2.2.1 mX12_isBack.2.2.2 ∈ az_tbl := tw_1766
abbrev mX12_backBy : az_Me := (({ cls := "LetterNightsModel", name := "backBy", desc := "(III)I" } : Jvm.MethodName), prog_14_method_88_code, 8, (some FieldType.int : Option FieldType))
theorem kX12_backBy : Cond.code mX12_backBy.1 mX12_backBy.2.1 mX12_backBy.2.2.1 mX12_backBy.2.2.2 ∈ az_tbl := tw_1770
abbrev mX12_fate : az_Me := (({ cls := "LetterNightsModel", name := "fate", desc := "(II)I" } : Jvm.MethodName), prog_14_method_95_code, 3, (some FieldType.int : Option FieldType))
theorem kX12_fate : Cond.code mX12_fate.1 mX12_fate.2.1 mX12_fate.2.2.1 mX12_fate.2.2.2 ∈ az_tbl := tw_1774
abbrev mX12_fateOf : az_Me := (({ cls := "LetterNightsModel", name := "fateOf", desc := "(II)I" } : Jvm.MethodName), prog_14_method_94_code, 4, (some FieldType.int : Option FieldType))
theorem kX12_fateOf : Cond.code mX12_fateOf.1 mX12_fateOf.2.1 mX12_fateOf.2.2.1 mX12_fateOf.2.2.2 ∈ az_tbl := tw_1778
abbrev mX12_laysReach : az_Me := (({ cls := "LetterNightsModel", name := "laysReach", desc := "(I)V" } : Jvm.MethodName), prog_14_method_89_code, 4, (none : Option FieldType))
theorem kX12_laysReach : Cond.code mX12_laysReach.1 mX12_laysReach.2.1 mX12_laysReach.2.2.1 mX12_laysReach.2.2.2 ∈ az_tbl := tw_1782
abbrev mX12_isIn : az_Me := (({ cls := "LetterNightsModel", name := "isIn", desc := "(JI)Z" } : Jvm.MethodName), prog_14_method_15_code, 3, (some FieldType.boolean : Option FieldType))
theorem kX12_isIn : Cond.code mX12_isIn.1 mX12_isIn.2.1 mX12_isIn.2.2.1 mX12_isIn.2.2.2 ∈ az_tbl := tw_1785
abbrev mX12_itsAll : az_Me := (({ cls := "LetterNightsModel", name := "itsAll", desc := "(I)I" } : Jvm.MethodName), prog_14_method_90_code, 2, (some FieldType.int : Option FieldType))
theorem kX12_itsAll : Cond.code mX12_itsAll.1 mX12_itsAll.2.1 mX12_itsAll.2.2.1 mX12_itsAll.2.2.2 ∈ az_tbl := tw_1789
abbrev mX12_isDoubled : az_Me := (({ cls := "LetterNightsModel", name := "isDoubled", desc := "(II)Z" } : Jvm.MethodName), prog_14_method_91_code, 5, (some FieldType.boolean : Option FieldType))
theorem kX12_isDoubled : Cond.code mX12_isDoubled.1 mX12_isDoubled.2.1 mX12_isDoubled.2.2.1 mX12_isDoubled.2.2.2 ∈ az_tbl := tw_1793
abbrev mX12_mostRow : az_Me := (({ cls := "LetterNightsModel", name := "mostRow", desc := "(I)I" } : Jvm.MethodName), prog_14_method_93_code, 5, (some FieldType.int : Option FieldType))
theorem kX12_mostRow : Cond.code mX12_mostRow.1 mX12_mostRow.2.1 mX12_mostRow.2.2.1 mX12_mostRow.2.2.2 ∈ az_tbl := tw_1797
abbrev mX12_rowFrom : az_Me := (({ cls := "LetterNightsModel", name := "rowFrom", desc := "(I)I" } : Jvm.MethodName), prog_14_method_92_code, 5, (some FieldType.int : Option FieldType))
theorem kX12_rowFrom : Cond.code mX12_rowFrom.1 mX12_rowFrom.2.1 mX12_rowFrom.2.2.1 mX12_rowFrom.2.2.2 ∈ az_tbl := tw_1801
abbrev mX12_degree : az_Me := (({ cls := "LetterNightsModel", name := "degree", desc := "(II)I" } : Jvm.MethodName), prog_14_method_96_code, 3, (some FieldType.int : Option FieldType))
theorem kX12_degree : Cond.code mX12_degree.1 mX12_degree.2.1 mX12_degree.2.2.1 mX12_degree.2.2.2 ∈ az_tbl := tw_1805
abbrev mX12_begins : az_Me := (({ cls := "LetterNightsModel", name := "begins", desc := "(I)I" } : Jvm.MethodName), prog_14_method_97_code, 4, (some FieldType.int : Option FieldType))
theorem kX12_begins : Cond.code mX12_begins.1 mX12_begins.2.1 mX12_begins.2.2.1 mX12_begins.2.2.2 ∈ az_tbl := tw_1809
abbrev mX12_comes : az_Me := (({ cls := "LetterNightsModel", name := "comes", desc := "(I)I" } : Jvm.MethodName), prog_14_method_103_code, 5, (some FieldType.int : Option FieldType))
theorem kX12_comes : Cond.code mX12_comes.1 mX12_comes.2.1 mX12_comes.2.2.1 mX12_comes.2.2.2 ∈ az_tbl := tw_1813
abbrev mX12_laysMany : az_Me := (({ cls := "LetterNightsModel", name := "laysMany", desc := "()V" } : Jvm.MethodName), prog_14_method_98_code, 2, (none : Option FieldType))
theorem kX12_laysMany : Cond.code mX12_laysMany.1 mX12_laysMany.2.1 mX12_laysMany.2.2.1 mX12_laysMany.2.2.2 ∈ az_tbl := tw_1817
abbrev mX12_kindsIn : az_Me := (({ cls := "LetterNightsModel", name := "kindsIn", desc := "()I" } : Jvm.MethodName), prog_14_method_101_code, 3, (some FieldType.int : Option FieldType))
theorem kX12_kindsIn : Cond.code mX12_kindsIn.1 mX12_kindsIn.2.1 mX12_kindsIn.2.2.1 mX12_kindsIn.2.2.2 ∈ az_tbl := tw_1822
abbrev mX12_kindsTo : az_Me := (({ cls := "LetterNightsModel", name := "kindsTo", desc := "(II)I" } : Jvm.MethodName), prog_14_method_102_code, 6, (some FieldType.int : Option FieldType))
theorem kX12_kindsTo : Cond.code mX12_kindsTo.1 mX12_kindsTo.2.1 mX12_kindsTo.2.2.1 mX12_kindsTo.2.2.2 ∈ az_tbl := tw_1826
abbrev mX12_soonest : az_Me := (({ cls := "LetterNightsModel", name := "soonest", desc := "(J)I" } : Jvm.MethodName), prog_14_method_106_code, 3, (some FieldType.int : Option FieldType))
theorem kX12_soonest : Cond.code mX12_soonest.1 mX12_soonest.2.1 mX12_soonest.2.2.1 mX12_soonest.2.2.2 ∈ az_tbl := tw_1830
abbrev mX12_laysFound : az_Me := (({ cls := "LetterNightsModel", name := "laysFound", desc := "(J)I" } : Jvm.MethodName), prog_14_method_105_code, 4, (some FieldType.int : Option FieldType))
theorem kX12_laysFound : Cond.code mX12_laysFound.1 mX12_laysFound.2.1 mX12_laysFound.2.2.1 mX12_laysFound.2.2.2 ∈ az_tbl := tw_1834
abbrev mX12_finds : az_Me := (({ cls := "LetterNightsModel", name := "finds", desc := "(JII)Z" } : Jvm.MethodName), prog_14_method_104_code, 6, (some FieldType.boolean : Option FieldType))
theorem kX12_finds : Cond.code mX12_finds.1 mX12_finds.2.1 mX12_finds.2.2.1 mX12_finds.2.2.2 ∈ az_tbl := tw_1838
abbrev mX12_longIn : az_Me := (({ cls := "LetterNightsModel", name := "longIn", desc := "(I)J" } : Jvm.MethodName), prog_14_method_100_code, 5, (some FieldType.long : Option FieldType))
theorem kX12_longIn : Cond.code mX12_longIn.1 mX12_longIn.2.1 mX12_longIn.2.2.1 mX12_longIn.2.2.2 ∈ az_tbl := tw_1842
abbrev mX12_goesMany : az_Me := (({ cls := "LetterNightsModel", name := "goesMany", desc := "(II)V" } : Jvm.MethodName), prog_14_method_99_code, 6, (none : Option FieldType))
theorem kX12_goesMany : Cond.code mX12_goesMany.1 mX12_goesMany.2.1 mX12_goesMany.2.2.1 mX12_goesMany.2.2.2 ∈ az_tbl := tw_1846
abbrev mX12_way : az_Me := (({ cls := "LetterNightsModel", name := "way", desc := "(JI)I" } : Jvm.MethodName), prog_14_method_107_code, 5, (some FieldType.int : Option FieldType))
theorem kX12_way : Cond.code mX12_way.1 mX12_way.2.1 mX12_way.2.2.1 mX12_way.2.2.2 ∈ az_tbl := tw_1850
abbrev mX12_rows : az_Me := (({ cls := "LetterNightsModel", name := "rows", desc := "(JI)I" } : Jvm.MethodName), prog_14_method_109_code, 4, (some FieldType.int : Option FieldType))
theorem kX12_rows : Cond.code mX12_rows.1 mX12_rows.2.1 mX12_rows.2.2.1 mX12_rows.2.2.2 ∈ az_tbl := tw_1854
abbrev mX12_rowsFrom : az_Me := (({ cls := "LetterNightsModel", name := "rowsFrom", desc := "(JII)I" } : Jvm.MethodName), prog_14_method_108_code, 7, (some FieldType.int : Option FieldType))
theorem kX12_rowsFrom : Cond.code mX12_rowsFrom.1 mX12_rowsFrom.2.1 mX12_rowsFrom.2.2.1 mX12_rowsFrom.2.2.2 ∈ az_tbl := tw_1859
abbrev mX12_longBy : az_Me := (({ cls := "LetterNightsModel", name := "longBy", desc := "(I)I" } : Jvm.MethodName), prog_14_method_113_code, 3, (some FieldType.int : Option FieldType))
theorem kX12_longBy : Cond.code mX12_longBy.1 mX12_longBy.2.1 mX12_longBy.2.2.1 mX12_longBy.2.2.2 ∈ az_tbl := tw_1863
abbrev mX12_noLong : az_Me := (({ cls := "LetterNightsModel", name := "noLong", desc := "(II)I" } : Jvm.MethodName), prog_14_method_110_code, 5, (some FieldType.int : Option FieldType))
theorem kX12_noLong : Cond.code mX12_noLong.1 mX12_noLong.2.1 mX12_noLong.2.2.1 mX12_noLong.2.2.2 ∈ az_tbl := tw_1867
abbrev mX12_laysLongRows : az_Me := (({ cls := "LetterNightsModel", name := "laysLongRows", desc := "(I)I" } : Jvm.MethodName), prog_14_method_112_code, 3, (some FieldType.int : Option FieldType))
theorem kX12_laysLongRows : Cond.code mX12_laysLongRows.1 mX12_laysLongRows.2.1 mX12_laysLongRows.2.2.1 mX12_laysLongRows.2.2.2 ∈ az_tbl := tw_1872
abbrev mX12_goesLong : az_Me := (({ cls := "LetterNightsModel", name := "goesLong", desc := "(II)V" } : Jvm.MethodName), prog_14_method_111_code, 6, (none : Option FieldType))
theorem kX12_goesLong : Cond.code mX12_goesLong.1 mX12_goesLong.2.1 mX12_goesLong.2.2.1 mX12_goesLong.2.2.2 ∈ az_tbl := tw_1876
abbrev mX12_tables : az_Me := (({ cls := "LetterNightsModel", name := "tables", desc := "(II)I" } : Jvm.MethodName), prog_14_method_114_code, 4, (some FieldType.int : Option FieldType))
theorem kX12_tables : Cond.code mX12_tables.1 mX12_tables.2.1 mX12_tables.2.2.1 mX12_tables.2.2.2 ∈ az_tbl := tw_1880
abbrev mX12_moons : az_Me := (({ cls := "LetterNightsModel", name := "moons", desc := "(I)I" } : Jvm.MethodName), prog_14_method_115_code, 6, (some FieldType.int : Option FieldType))
theorem kX12_moons : Cond.code mX12_moons.1 mX12_moons.2.1 mX12_moons.2.2.1 mX12_moons.2.2.2 ∈ az_tbl := tw_1884
abbrev mX12_attempt : az_Me := (({ cls := "LetterNightsModel", name := "attempt", desc := "(I)I" } : Jvm.MethodName), prog_14_method_117_code, 10, (some FieldType.int : Option FieldType))
theorem kX12_attempt : Cond.code mX12_attempt.1 mX12_attempt.2.1 mX12_attempt.2.2.1 mX12_attempt.2.2.2 ∈ az_tbl := tw_1888
abbrev mX12_sorts : az_Me := (({ cls := "LetterNightsModel", name := "sorts", desc := "(II)V" } : Jvm.MethodName), prog_14_method_116_code, 8, (none : Option FieldType))
theorem kX12_sorts : Cond.code mX12_sorts.1 mX12_sorts.2.1 mX12_sorts.2.2.1 mX12_sorts.2.2.2 ∈ az_tbl := tw_1892
abbrev mX12_turned : az_Me := (({ cls := "LetterNightsModel", name := "turned", desc := "(I)J" } : Jvm.MethodName), prog_14_method_119_code, 2, (some FieldType.long : Option FieldType))
theorem kX12_turned : Cond.code mX12_turned.1 mX12_turned.2.1 mX12_turned.2.2.1 mX12_turned.2.2.2 ∈ az_tbl := tw_1896
abbrev mX12_turnedFrom : az_Me := (({ cls := "LetterNightsModel", name := "turnedFrom", desc := "(II)J" } : Jvm.MethodName), prog_14_method_118_code, 8, (some FieldType.long : Option FieldType))
theorem kX12_turnedFrom : Cond.code mX12_turnedFrom.1 mX12_turnedFrom.2.1 mX12_turnedFrom.2.2.1 mX12_turnedFrom.2.2.2 ∈ az_tbl := tw_1900
abbrev mX12_best : az_Me := (({ cls := "LetterNightsModel", name := "best", desc := "(I)I" } : Jvm.MethodName), prog_14_method_120_code, 5, (some FieldType.int : Option FieldType))
theorem kX12_best : Cond.code mX12_best.1 mX12_best.2.1 mX12_best.2.2.1 mX12_best.2.2.2 ∈ az_tbl := tw_1904
abbrev mX12_chance : az_Me := (({ cls := "LetterNightsModel", name := "chance", desc := "(II)I" } : Jvm.MethodName), prog_14_method_124_code, 6, (some FieldType.int : Option FieldType))
theorem kX12_chance : Cond.code mX12_chance.1 mX12_chance.2.1 mX12_chance.2.2.1 mX12_chance.2.2.2 ∈ az_tbl := tw_1908
abbrev mX12_wholeOf : az_Me := (({ cls := "LetterNightsModel", name := "wholeOf", desc := "(I)J" } : Jvm.MethodName), prog_14_method_121_code, 5, (some FieldType.long : Option FieldType))
theorem kX12_wholeOf : Cond.code mX12_wholeOf.1 mX12_wholeOf.2.1 mX12_wholeOf.2.2.1 mX12_wholeOf.2.2.2 ∈ az_tbl := tw_1913
abbrev mX12_part : az_Me := (({ cls := "LetterNightsModel", name := "part", desc := "(JJI)J" } : Jvm.MethodName), prog_14_method_123_code, 5, (some FieldType.long : Option FieldType))
theorem kX12_part : Cond.code mX12_part.1 mX12_part.2.1 mX12_part.2.2.1 mX12_part.2.2.2 ∈ az_tbl := tw_1916
abbrev mX12_common : az_Me := (({ cls := "LetterNightsModel", name := "common", desc := "(JJ)J" } : Jvm.MethodName), prog_14_method_122_code, 4, (some FieldType.long : Option FieldType))
theorem kX12_common : Cond.code mX12_common.1 mX12_common.2.1 mX12_common.2.2.1 mX12_common.2.2.2 ∈ az_tbl := tw_1919
abbrev mX12_mean : az_Me := (({ cls := "LetterNightsModel", name := "mean", desc := "(II)J" } : Jvm.MethodName), prog_14_method_125_code, 7, (some FieldType.long : Option FieldType))
theorem kX12_mean : Cond.code mX12_mean.1 mX12_mean.2.1 mX12_mean.2.2.1 mX12_mean.2.2.2 ∈ az_tbl := tw_1923
abbrev mX12_numbers : az_Me := (({ cls := "LetterNightsModel", name := "numbers", desc := "(III)I" } : Jvm.MethodName), prog_14_method_127_code, 5, (some FieldType.int : Option FieldType))
theorem kX12_numbers : Cond.code mX12_numbers.1 mX12_numbers.2.1 mX12_numbers.2.2.1 mX12_numbers.2.2.2 ∈ az_tbl := tw_1927
abbrev mX12_write : az_Me := (({ cls := "LetterNightsModel", name := "write", desc := "(IIJ)J" } : Jvm.MethodName), prog_14_method_128_code, 6, (some FieldType.long : Option FieldType))
theorem kX12_write : Cond.code mX12_write.1 mX12_write.2.1 mX12_write.2.2.1 mX12_write.2.2.2 ∈ az_tbl := tw_1932
abbrev mX12_cut : az_Me := (({ cls := "LetterNightsModel", name := "cut", desc := "(JI)J" } : Jvm.MethodName), prog_14_method_126_code, 3, (some FieldType.long : Option FieldType))
theorem kX12_cut : Cond.code mX12_cut.1 mX12_cut.2.1 mX12_cut.2.2.1 mX12_cut.2.2.2 ∈ az_tbl := tw_1936
abbrev mX12_lists : az_Me := (({ cls := "LetterNightsModel", name := "lists", desc := "(IJ)I" } : Jvm.MethodName), prog_14_method_129_code, 9, (some FieldType.int : Option FieldType))
theorem kX12_lists : Cond.code mX12_lists.1 mX12_lists.2.1 mX12_lists.2.2.1 mX12_lists.2.2.2 ∈ az_tbl := tw_1940
abbrev mX12_image : az_Me := (({ cls := "LetterNightsModel", name := "image", desc := "(I)I" } : Jvm.MethodName), prog_14_method_130_code, 3, (some FieldType.int : Option FieldType))
theorem kX12_image : Cond.code mX12_image.1 mX12_image.2.1 mX12_image.2.2.1 mX12_image.2.2.2 ∈ az_tbl := tw_1944
abbrev mX12_restore : az_Me := (({ cls := "LetterNightsModel", name := "restore", desc := "(I)I" } : Jvm.MethodName), prog_14_method_131_code, 3, (some FieldType.int : Option FieldType))
theorem kX12_restore : Cond.code mX12_restore.1 mX12_restore.2.1 mX12_restore.2.2.1 mX12_restore.2.2.2 ∈ az_tbl := tw_1948
abbrev mX12_told : az_Me := (({ cls := "LetterNightsModel", name := "told", desc := "(I)I" } : Jvm.MethodName), prog_14_method_132_code, 6, (some FieldType.int : Option FieldType))
theorem kX12_told : Cond.code mX12_told.1 mX12_told.2.1 mX12_told.2.2.1 mX12_told.2.2.2 ∈ az_tbl := tw_1952
theorem usX0 : ∀ w ∈ u_ws RX0 TX0 8, w ∈ az_tbl := az_mems [134, 136, 138, 140, 142, 144, 146, 148] (by decide +kernel) (by decide +kernel)
theorem usX1 : ∀ w ∈ u_ws RX1 TX1 8, w ∈ az_tbl := az_mems [336, 338, 340, 342, 344, 346, 348, 350] (by decide +kernel) (by decide +kernel)
theorem usX2 : ∀ w ∈ u_ws RX2 TX2 2, w ∈ az_tbl := az_mems [159, 161] (by decide +kernel) (by decide +kernel)
theorem usX4 : ∀ w ∈ u_ws RX4 TX4 4, w ∈ az_tbl := az_mems [85, 87, 89, 91] (by decide +kernel) (by decide +kernel)
theorem usX5 : ∀ w ∈ u_ws RX5 TX5 11, w ∈ az_tbl := az_mems [49, 51, 53, 55, 57, 59, 61, 63, 65, 67, 69] (by decide +kernel) (by decide +kernel)
theorem usX6 : ∀ w ∈ u_ws RX6 TX6 13, w ∈ az_tbl := az_mems [276, 278, 280, 282, 284, 286, 288, 290, 292, 294, 296, 298, 300] (by decide +kernel) (by decide +kernel)
theorem usX7 : ∀ w ∈ u_ws RX7 TX7 4, w ∈ az_tbl := az_mems [109, 111, 113, 115] (by decide +kernel) (by decide +kernel)
theorem usX8 : ∀ w ∈ u_ws RX8 TX8 4, w ∈ az_tbl := az_mems [319, 321, 323, 325] (by decide +kernel) (by decide +kernel)
theorem usX9 : ∀ w ∈ u_ws RX9 TX9 9, w ∈ az_tbl := az_mems [203, 205, 207, 209, 211, 213, 215, 217, 219] (by decide +kernel) (by decide +kernel)
theorem usX10 : ∀ w ∈ u_ws RX10 TX10 3, w ∈ az_tbl := az_mems [364, 366, 368] (by decide +kernel) (by decide +kernel)
theorem usX11 : ∀ w ∈ u_ws RX11 TX11 12, w ∈ az_tbl := az_mems [383, 385, 387, 389, 391, 393, 395, 397, 399, 401, 403, 405] (by decide +kernel) (by decide +kernel)
theorem usX12 : ∀ w ∈ u_ws RX12 TX12 45, w ∈ az_tbl := az_mems [1329, 1331, 1333, 1335, 1337, 1339, 1341, 1343, 1345, 1347, 1349, 1351, 1353, 1355, 1357, 1359, 1361, 1363, 1365, 1367, 1369, 1371, 1373, 1375, 1377, 1379, 1381, 1383, 1385, 1387, 1389, 1391, 1393, 1395, 1397, 1399, 1401, 1403, 1405, 1407, 1409, 1411, 1413, 1415, 1417] (by decide +kernel) (by decide +kernel)
theorem fl_X5_9 : az_fl "LetterNights$Reader" 9 4 0 .int false := ⟨RX5, TX5, 11, tyX5, rfl, by decide, tw_36, usX5, tyX5_ok, nmX5, rfl, rfl, rfl⟩
theorem fl_X11_93 : az_fl "LetterNights" 93 4 0 .int false := ⟨RX5, TX5, 11, tyX5, rfl, by decide, tw_37, usX5, tyX5_ok, nmX5, rfl, rfl, rfl⟩
theorem fl_X5_15 : az_fl "LetterNights$Reader" 15 4 1 .int false := ⟨RX5, TX5, 11, tyX5, rfl, by decide, tw_38, usX5, tyX5_ok, nmX5, rfl, rfl, rfl⟩
theorem fl_X11_105 : az_fl "LetterNights" 105 4 1 .int false := ⟨RX5, TX5, 11, tyX5, rfl, by decide, tw_39, usX5, tyX5_ok, nmX5, rfl, rfl, rfl⟩
theorem fl_X5_18 : az_fl "LetterNights$Reader" 18 4 2 (.array .byte) false := ⟨RX5, TX5, 11, tyX5, rfl, by decide, tw_40, usX5, tyX5_ok, nmX5, rfl, rfl, rfl⟩
theorem fl_X5_35 : az_fl "LetterNights$Reader" 35 4 3 .int false := ⟨RX5, TX5, 11, tyX5, rfl, by decide, tw_41, usX5, tyX5_ok, nmX5, rfl, rfl, rfl⟩
theorem fl_X5_51 : az_fl "LetterNights$Reader" 51 4 4 .int false := ⟨RX5, TX5, 11, tyX5, rfl, by decide, tw_42, usX5, tyX5_ok, nmX5, rfl, rfl, rfl⟩
theorem fl_X5_204 : az_fl "LetterNights$Reader" 204 4 5 .int false := ⟨RX5, TX5, 11, tyX5, rfl, by decide, tw_43, usX5, tyX5_ok, nmX5, rfl, rfl, rfl⟩
theorem fl_X5_38 : az_fl "LetterNights$Reader" 38 4 6 .int false := ⟨RX5, TX5, 11, tyX5, rfl, by decide, tw_44, usX5, tyX5_ok, nmX5, rfl, rfl, rfl⟩
theorem fl_X5_69 : az_fl "LetterNights$Reader" 69 4 7 .int false := ⟨RX5, TX5, 11, tyX5, rfl, by decide, tw_45, usX5, tyX5_ok, nmX5, rfl, rfl, rfl⟩
theorem fl_X5_22 : az_fl "LetterNights$Reader" 22 4 8 (.array .int) true := ⟨RX5, TX5, 11, tyX5, rfl, by decide, tw_46, usX5, tyX5_ok, nmX5, rfl, rfl, rfl⟩
theorem fl_X5_26 : az_fl "LetterNights$Reader" 26 4 9 (.array .int) true := ⟨RX5, TX5, 11, tyX5, rfl, by decide, tw_47, usX5, tyX5_ok, nmX5, rfl, rfl, rfl⟩
theorem fl_X5_108 : az_fl "LetterNights$Reader" 108 4 10 .int false := ⟨RX5, TX5, 11, tyX5, rfl, by decide, tw_48, usX5, tyX5_ok, nmX5, rfl, rfl, rfl⟩
theorem fl_X4_7 : az_fl "LetterNights$Past" 7 3 0 .int false := ⟨RX4, TX4, 4, tyX4, rfl, by decide, tw_80, usX4, tyX4_ok, nmX4, rfl, rfl, rfl⟩
theorem fl_X11_183 : az_fl "LetterNights" 183 3 0 .int false := ⟨RX4, TX4, 4, tyX4, rfl, by decide, tw_81, usX4, tyX4_ok, nmX4, rfl, rfl, rfl⟩
theorem fl_X4_13 : az_fl "LetterNights$Past" 13 3 1 (.array .int) true := ⟨RX4, TX4, 4, tyX4, rfl, by decide, tw_82, usX4, tyX4_ok, nmX4, rfl, rfl, rfl⟩
theorem fl_X4_17 : az_fl "LetterNights$Past" 17 3 2 (.array .int) true := ⟨RX4, TX4, 4, tyX4, rfl, by decide, tw_83, usX4, tyX4_ok, nmX4, rfl, rfl, rfl⟩
theorem fl_X4_20 : az_fl "LetterNights$Past" 20 3 3 (.array .int) true := ⟨RX4, TX4, 4, tyX4, rfl, by decide, tw_84, usX4, tyX4_ok, nmX4, rfl, rfl, rfl⟩
theorem fl_X7_9 : az_fl "LetterNights$Survey" 9 6 0 (.array .long) true := ⟨RX7, TX7, 4, tyX7, rfl, by decide, tw_104, usX7, tyX7_ok, nmX7, rfl, rfl, rfl⟩
theorem fl_X11_233 : az_fl "LetterNights" 233 6 0 (.array .long) true := ⟨RX7, TX7, 4, tyX7, rfl, by decide, tw_105, usX7, tyX7_ok, nmX7, rfl, rfl, rfl⟩
theorem fl_X7_15 : az_fl "LetterNights$Survey" 15 6 1 (.array .long) true := ⟨RX7, TX7, 4, tyX7, rfl, by decide, tw_106, usX7, tyX7_ok, nmX7, rfl, rfl, rfl⟩
theorem fl_X7_62 : az_fl "LetterNights$Survey" 62 6 2 .long false := ⟨RX7, TX7, 4, tyX7, rfl, by decide, tw_107, usX7, tyX7_ok, nmX7, rfl, rfl, rfl⟩
theorem fl_X7_26 : az_fl "LetterNights$Survey" 26 6 3 .long false := ⟨RX7, TX7, 4, tyX7, rfl, by decide, tw_108, usX7, tyX7_ok, nmX7, rfl, rfl, rfl⟩
theorem fl_X0_9 : az_fl "LetterNights$Finder" 9 0 0 (.array .int) true := ⟨RX0, TX0, 8, tyX0, rfl, by decide, tw_125, usX0, tyX0_ok, nmX0, rfl, rfl, rfl⟩
theorem fl_X0_41 : az_fl "LetterNights$Finder" 41 0 1 .int false := ⟨RX0, TX0, 8, tyX0, rfl, by decide, tw_126, usX0, tyX0_ok, nmX0, rfl, rfl, rfl⟩
theorem fl_X0_15 : az_fl "LetterNights$Finder" 15 0 2 (.array .int) true := ⟨RX0, TX0, 8, tyX0, rfl, by decide, tw_127, usX0, tyX0_ok, nmX0, rfl, rfl, rfl⟩
theorem fl_X0_18 : az_fl "LetterNights$Finder" 18 0 3 (.array .byte) true := ⟨RX0, TX0, 8, tyX0, rfl, by decide, tw_128, usX0, tyX0_ok, nmX0, rfl, rfl, rfl⟩
theorem fl_X0_22 : az_fl "LetterNights$Finder" 22 0 4 (.array .long) true := ⟨RX0, TX0, 8, tyX0, rfl, by decide, tw_129, usX0, tyX0_ok, nmX0, rfl, rfl, rfl⟩
theorem fl_X0_88 : az_fl "LetterNights$Finder" 88 0 5 .int false := ⟨RX0, TX0, 8, tyX0, rfl, by decide, tw_130, usX0, tyX0_ok, nmX0, rfl, rfl, rfl⟩
theorem fl_X0_91 : az_fl "LetterNights$Finder" 91 0 6 .long false := ⟨RX0, TX0, 8, tyX0, rfl, by decide, tw_131, usX0, tyX0_ok, nmX0, rfl, rfl, rfl⟩
theorem fl_X0_26 : az_fl "LetterNights$Finder" 26 0 7 (.array .int) true := ⟨RX0, TX0, 8, tyX0, rfl, by decide, tw_132, usX0, tyX0_ok, nmX0, rfl, rfl, rfl⟩
theorem fl_X11_247 : az_fl "LetterNights" 247 0 7 (.array .int) true := ⟨RX0, TX0, 8, tyX0, rfl, by decide, tw_133, usX0, tyX0_ok, nmX0, rfl, rfl, rfl⟩
theorem fl_X2_9 : az_fl "LetterNights$Kin" 9 2 0 (.array .int) true := ⟨RX2, TX2, 2, tyX2, rfl, by decide, tw_157, usX2, tyX2_ok, nmX2, rfl, rfl, rfl⟩
theorem fl_X2_15 : az_fl "LetterNights$Kin" 15 2 1 (.array .int) true := ⟨RX2, TX2, 2, tyX2, rfl, by decide, tw_158, usX2, tyX2_ok, nmX2, rfl, rfl, rfl⟩
theorem fl_X9_9 : az_fl "LetterNights$Town" 9 8 0 .int false := ⟨RX9, TX9, 9, tyX9, rfl, by decide, tw_170, usX9, tyX9_ok, nmX9, rfl, rfl, rfl⟩
theorem fl_X5_72 : az_fl "LetterNights$Reader" 72 8 0 .int false := ⟨RX9, TX9, 9, tyX9, rfl, by decide, tw_171, usX9, tyX9_ok, nmX9, rfl, rfl, rfl⟩
theorem fl_X6_111 : az_fl "LetterNights$Scene" 111 8 0 .int false := ⟨RX9, TX9, 9, tyX9, rfl, by decide, tw_172, usX9, tyX9_ok, nmX9, rfl, rfl, rfl⟩
theorem fl_X1_83 : az_fl "LetterNights$Futures" 83 8 0 .int false := ⟨RX9, TX9, 9, tyX9, rfl, by decide, tw_173, usX9, tyX9_ok, nmX9, rfl, rfl, rfl⟩
theorem fl_X11_268 : az_fl "LetterNights" 268 8 0 .int false := ⟨RX9, TX9, 9, tyX9, rfl, by decide, tw_174, usX9, tyX9_ok, nmX9, rfl, rfl, rfl⟩
theorem fl_X9_15 : az_fl "LetterNights$Town" 15 8 1 .int false := ⟨RX9, TX9, 9, tyX9, rfl, by decide, tw_175, usX9, tyX9_ok, nmX9, rfl, rfl, rfl⟩
theorem fl_X6_44 : az_fl "LetterNights$Scene" 44 8 1 .int false := ⟨RX9, TX9, 9, tyX9, rfl, by decide, tw_176, usX9, tyX9_ok, nmX9, rfl, rfl, rfl⟩
theorem fl_X5_76 : az_fl "LetterNights$Reader" 76 8 1 .int false := ⟨RX9, TX9, 9, tyX9, rfl, by decide, tw_177, usX9, tyX9_ok, nmX9, rfl, rfl, rfl⟩
theorem fl_X9_18 : az_fl "LetterNights$Town" 18 8 2 .int false := ⟨RX9, TX9, 9, tyX9, rfl, by decide, tw_178, usX9, tyX9_ok, nmX9, rfl, rfl, rfl⟩
theorem fl_X5_78 : az_fl "LetterNights$Reader" 78 8 2 .int false := ⟨RX9, TX9, 9, tyX9, rfl, by decide, tw_179, usX9, tyX9_ok, nmX9, rfl, rfl, rfl⟩
theorem fl_X11_102 : az_fl "LetterNights" 102 8 2 .int false := ⟨RX9, TX9, 9, tyX9, rfl, by decide, tw_180, usX9, tyX9_ok, nmX9, rfl, rfl, rfl⟩
theorem fl_X9_21 : az_fl "LetterNights$Town" 21 8 3 .int false := ⟨RX9, TX9, 9, tyX9, rfl, by decide, tw_181, usX9, tyX9_ok, nmX9, rfl, rfl, rfl⟩
theorem fl_X6_89 : az_fl "LetterNights$Scene" 89 8 3 .int false := ⟨RX9, TX9, 9, tyX9, rfl, by decide, tw_182, usX9, tyX9_ok, nmX9, rfl, rfl, rfl⟩
theorem fl_X5_137 : az_fl "LetterNights$Reader" 137 8 3 .int false := ⟨RX9, TX9, 9, tyX9, rfl, by decide, tw_183, usX9, tyX9_ok, nmX9, rfl, rfl, rfl⟩
theorem fl_X0_82 : az_fl "LetterNights$Finder" 82 8 3 .int false := ⟨RX9, TX9, 9, tyX9, rfl, by decide, tw_184, usX9, tyX9_ok, nmX9, rfl, rfl, rfl⟩
theorem fl_X7_65 : az_fl "LetterNights$Survey" 65 8 3 .int false := ⟨RX9, TX9, 9, tyX9, rfl, by decide, tw_185, usX9, tyX9_ok, nmX9, rfl, rfl, rfl⟩
theorem fl_X9_24 : az_fl "LetterNights$Town" 24 8 4 (.array .int) true := ⟨RX9, TX9, 9, tyX9, rfl, by decide, tw_186, usX9, tyX9_ok, nmX9, rfl, rfl, rfl⟩
theorem fl_X5_131 : az_fl "LetterNights$Reader" 131 8 4 (.array .int) true := ⟨RX9, TX9, 9, tyX9, rfl, by decide, tw_187, usX9, tyX9_ok, nmX9, rfl, rfl, rfl⟩
theorem fl_X6_92 : az_fl "LetterNights$Scene" 92 8 4 (.array .int) true := ⟨RX9, TX9, 9, tyX9, rfl, by decide, tw_188, usX9, tyX9_ok, nmX9, rfl, rfl, rfl⟩
theorem fl_X0_85 : az_fl "LetterNights$Finder" 85 8 4 (.array .int) true := ⟨RX9, TX9, 9, tyX9, rfl, by decide, tw_189, usX9, tyX9_ok, nmX9, rfl, rfl, rfl⟩
theorem fl_X7_68 : az_fl "LetterNights$Survey" 68 8 4 (.array .int) true := ⟨RX9, TX9, 9, tyX9, rfl, by decide, tw_190, usX9, tyX9_ok, nmX9, rfl, rfl, rfl⟩
theorem fl_X9_28 : az_fl "LetterNights$Town" 28 8 5 (.array .int) true := ⟨RX9, TX9, 9, tyX9, rfl, by decide, tw_191, usX9, tyX9_ok, nmX9, rfl, rfl, rfl⟩
theorem fl_X1_49 : az_fl "LetterNights$Futures" 49 8 5 (.array .int) true := ⟨RX9, TX9, 9, tyX9, rfl, by decide, tw_192, usX9, tyX9_ok, nmX9, rfl, rfl, rfl⟩
theorem fl_X5_140 : az_fl "LetterNights$Reader" 140 8 5 (.array .int) true := ⟨RX9, TX9, 9, tyX9, rfl, by decide, tw_193, usX9, tyX9_ok, nmX9, rfl, rfl, rfl⟩
theorem fl_X9_31 : az_fl "LetterNights$Town" 31 8 6 (.array .int) true := ⟨RX9, TX9, 9, tyX9, rfl, by decide, tw_194, usX9, tyX9_ok, nmX9, rfl, rfl, rfl⟩
theorem fl_X5_145 : az_fl "LetterNights$Reader" 145 8 6 (.array .int) true := ⟨RX9, TX9, 9, tyX9, rfl, by decide, tw_195, usX9, tyX9_ok, nmX9, rfl, rfl, rfl⟩
theorem fl_X1_60 : az_fl "LetterNights$Futures" 60 8 6 (.array .int) true := ⟨RX9, TX9, 9, tyX9, rfl, by decide, tw_196, usX9, tyX9_ok, nmX9, rfl, rfl, rfl⟩
theorem fl_X9_34 : az_fl "LetterNights$Town" 34 8 7 (.array .int) false := ⟨RX9, TX9, 9, tyX9, rfl, by decide, tw_197, usX9, tyX9_ok, nmX9, rfl, rfl, rfl⟩
theorem fl_X5_117 : az_fl "LetterNights$Reader" 117 8 7 (.array .int) false := ⟨RX9, TX9, 9, tyX9, rfl, by decide, tw_198, usX9, tyX9_ok, nmX9, rfl, rfl, rfl⟩
theorem fl_X6_131 : az_fl "LetterNights$Scene" 131 8 7 (.array .int) false := ⟨RX9, TX9, 9, tyX9, rfl, by decide, tw_199, usX9, tyX9_ok, nmX9, rfl, rfl, rfl⟩
theorem fl_X9_37 : az_fl "LetterNights$Town" 37 8 8 (.array .int) false := ⟨RX9, TX9, 9, tyX9, rfl, by decide, tw_200, usX9, tyX9_ok, nmX9, rfl, rfl, rfl⟩
theorem fl_X5_125 : az_fl "LetterNights$Reader" 125 8 8 (.array .int) false := ⟨RX9, TX9, 9, tyX9, rfl, by decide, tw_201, usX9, tyX9_ok, nmX9, rfl, rfl, rfl⟩
theorem fl_X6_124 : az_fl "LetterNights$Scene" 124 8 8 (.array .int) false := ⟨RX9, TX9, 9, tyX9, rfl, by decide, tw_202, usX9, tyX9_ok, nmX9, rfl, rfl, rfl⟩
theorem fl_X6_40 : az_fl "LetterNights$Scene" 40 5 0 (.object "LetterNights$Town") false := ⟨RX6, TX6, 13, tyX6, rfl, by decide, tw_241, usX6, tyX6_ok, nmX6, rfl, rfl, rfl⟩
theorem fl_X1_39 : az_fl "LetterNights$Futures" 39 5 0 (.object "LetterNights$Town") false := ⟨RX6, TX6, 13, tyX6, rfl, by decide, tw_242, usX6, tyX6_ok, nmX6, rfl, rfl, rfl⟩
theorem fl_X7_30 : az_fl "LetterNights$Survey" 30 5 0 (.object "LetterNights$Town") false := ⟨RX6, TX6, 13, tyX6, rfl, by decide, tw_243, usX6, tyX6_ok, nmX6, rfl, rfl, rfl⟩
theorem fl_X0_65 : az_fl "LetterNights$Finder" 65 5 0 (.object "LetterNights$Town") false := ⟨RX6, TX6, 13, tyX6, rfl, by decide, tw_244, usX6, tyX6_ok, nmX6, rfl, rfl, rfl⟩
theorem fl_X11_116 : az_fl "LetterNights" 116 5 0 (.object "LetterNights$Town") false := ⟨RX6, TX6, 13, tyX6, rfl, by decide, tw_245, usX6, tyX6_ok, nmX6, rfl, rfl, rfl⟩
theorem fl_X6_50 : az_fl "LetterNights$Scene" 50 5 1 .int false := ⟨RX6, TX6, 13, tyX6, rfl, by decide, tw_246, usX6, tyX6_ok, nmX6, rfl, rfl, rfl⟩
theorem fl_X4_31 : az_fl "LetterNights$Past" 31 5 1 .int false := ⟨RX6, TX6, 13, tyX6, rfl, by decide, tw_247, usX6, tyX6_ok, nmX6, rfl, rfl, rfl⟩
theorem fl_X3_31 : az_fl "LetterNights$Law" 31 5 1 .int false := ⟨RX6, TX6, 13, tyX6, rfl, by decide, tw_248, usX6, tyX6_ok, nmX6, rfl, rfl, rfl⟩
theorem fl_X11_180 : az_fl "LetterNights" 180 5 1 .int false := ⟨RX6, TX6, 13, tyX6, rfl, by decide, tw_249, usX6, tyX6_ok, nmX6, rfl, rfl, rfl⟩
theorem fl_X6_51 : az_fl "LetterNights$Scene" 51 5 2 .int false := ⟨RX6, TX6, 13, tyX6, rfl, by decide, tw_250, usX6, tyX6_ok, nmX6, rfl, rfl, rfl⟩
theorem fl_X4_28 : az_fl "LetterNights$Past" 28 5 2 .int false := ⟨RX6, TX6, 13, tyX6, rfl, by decide, tw_251, usX6, tyX6_ok, nmX6, rfl, rfl, rfl⟩
theorem fl_X3_27 : az_fl "LetterNights$Law" 27 5 2 .int false := ⟨RX6, TX6, 13, tyX6, rfl, by decide, tw_252, usX6, tyX6_ok, nmX6, rfl, rfl, rfl⟩
theorem fl_X11_335 : az_fl "LetterNights" 335 5 2 .int false := ⟨RX6, TX6, 13, tyX6, rfl, by decide, tw_253, usX6, tyX6_ok, nmX6, rfl, rfl, rfl⟩
theorem fl_X6_54 : az_fl "LetterNights$Scene" 54 5 3 .int false := ⟨RX6, TX6, 13, tyX6, rfl, by decide, tw_254, usX6, tyX6_ok, nmX6, rfl, rfl, rfl⟩
theorem fl_X4_23 : az_fl "LetterNights$Past" 23 5 3 .int false := ⟨RX6, TX6, 13, tyX6, rfl, by decide, tw_255, usX6, tyX6_ok, nmX6, rfl, rfl, rfl⟩
theorem fl_X0_49 : az_fl "LetterNights$Finder" 49 5 3 .int false := ⟨RX6, TX6, 13, tyX6, rfl, by decide, tw_256, usX6, tyX6_ok, nmX6, rfl, rfl, rfl⟩
theorem fl_X7_36 : az_fl "LetterNights$Survey" 36 5 3 .int false := ⟨RX6, TX6, 13, tyX6, rfl, by decide, tw_257, usX6, tyX6_ok, nmX6, rfl, rfl, rfl⟩
theorem fl_X11_338 : az_fl "LetterNights" 338 5 3 .int false := ⟨RX6, TX6, 13, tyX6, rfl, by decide, tw_258, usX6, tyX6_ok, nmX6, rfl, rfl, rfl⟩
theorem fl_X6_60 : az_fl "LetterNights$Scene" 60 5 4 .long false := ⟨RX6, TX6, 13, tyX6, rfl, by decide, tw_259, usX6, tyX6_ok, nmX6, rfl, rfl, rfl⟩
theorem fl_X3_41 : az_fl "LetterNights$Law" 41 5 4 .long false := ⟨RX6, TX6, 13, tyX6, rfl, by decide, tw_260, usX6, tyX6_ok, nmX6, rfl, rfl, rfl⟩
theorem fl_X11_136 : az_fl "LetterNights" 136 5 4 .long false := ⟨RX6, TX6, 13, tyX6, rfl, by decide, tw_261, usX6, tyX6_ok, nmX6, rfl, rfl, rfl⟩
theorem fl_X6_64 : az_fl "LetterNights$Scene" 64 5 5 .int false := ⟨RX6, TX6, 13, tyX6, rfl, by decide, tw_262, usX6, tyX6_ok, nmX6, rfl, rfl, rfl⟩
theorem fl_X11_344 : az_fl "LetterNights" 344 5 5 .int false := ⟨RX6, TX6, 13, tyX6, rfl, by decide, tw_263, usX6, tyX6_ok, nmX6, rfl, rfl, rfl⟩
theorem fl_X6_9 : az_fl "LetterNights$Scene" 9 5 6 (.array .long) true := ⟨RX6, TX6, 13, tyX6, rfl, by decide, tw_264, usX6, tyX6_ok, nmX6, rfl, rfl, rfl⟩
theorem fl_X1_42 : az_fl "LetterNights$Futures" 42 5 6 (.array .long) true := ⟨RX6, TX6, 13, tyX6, rfl, by decide, tw_265, usX6, tyX6_ok, nmX6, rfl, rfl, rfl⟩
theorem fl_X11_152 : az_fl "LetterNights" 152 5 6 (.array .long) true := ⟨RX6, TX6, 13, tyX6, rfl, by decide, tw_266, usX6, tyX6_ok, nmX6, rfl, rfl, rfl⟩
theorem fl_X6_15 : az_fl "LetterNights$Scene" 15 5 7 (.array .int) true := ⟨RX6, TX6, 13, tyX6, rfl, by decide, tw_267, usX6, tyX6_ok, nmX6, rfl, rfl, rfl⟩
theorem fl_X0_62 : az_fl "LetterNights$Finder" 62 5 7 (.array .int) true := ⟨RX6, TX6, 13, tyX6, rfl, by decide, tw_268, usX6, tyX6_ok, nmX6, rfl, rfl, rfl⟩
theorem fl_X7_40 : az_fl "LetterNights$Survey" 40 5 7 (.array .int) true := ⟨RX6, TX6, 13, tyX6, rfl, by decide, tw_269, usX6, tyX6_ok, nmX6, rfl, rfl, rfl⟩
theorem fl_X6_19 : az_fl "LetterNights$Scene" 19 5 8 (.array .int) true := ⟨RX6, TX6, 13, tyX6, rfl, by decide, tw_270, usX6, tyX6_ok, nmX6, rfl, rfl, rfl⟩
theorem fl_X6_22 : az_fl "LetterNights$Scene" 22 5 9 (.array .int) true := ⟨RX6, TX6, 13, tyX6, rfl, by decide, tw_271, usX6, tyX6_ok, nmX6, rfl, rfl, rfl⟩
theorem fl_X6_25 : az_fl "LetterNights$Scene" 25 5 10 (.array .int) true := ⟨RX6, TX6, 13, tyX6, rfl, by decide, tw_272, usX6, tyX6_ok, nmX6, rfl, rfl, rfl⟩
theorem fl_X6_28 : az_fl "LetterNights$Scene" 28 5 11 (.array .long) true := ⟨RX6, TX6, 13, tyX6, rfl, by decide, tw_273, usX6, tyX6_ok, nmX6, rfl, rfl, rfl⟩
theorem fl_X6_33 : az_fl "LetterNights$Scene" 33 5 12 (.array .int) true := ⟨RX6, TX6, 13, tyX6, rfl, by decide, tw_274, usX6, tyX6_ok, nmX6, rfl, rfl, rfl⟩
theorem fl_X3_7 : az_fl "LetterNights$Law" 7 5 12 (.array .int) true := ⟨RX6, TX6, 13, tyX6, rfl, by decide, tw_275, usX6, tyX6_ok, nmX6, rfl, rfl, rfl⟩
theorem fl_X8_9 : az_fl "LetterNights$Tally" 9 7 0 (.array .long) false := ⟨RX8, TX8, 4, tyX8, rfl, by decide, tw_315, usX8, tyX8_ok, nmX8, rfl, rfl, rfl⟩
theorem fl_X8_15 : az_fl "LetterNights$Tally" 15 7 1 (.array .int) false := ⟨RX8, TX8, 4, tyX8, rfl, by decide, tw_316, usX8, tyX8_ok, nmX8, rfl, rfl, rfl⟩
theorem fl_X8_19 : az_fl "LetterNights$Tally" 19 7 2 .int false := ⟨RX8, TX8, 4, tyX8, rfl, by decide, tw_317, usX8, tyX8_ok, nmX8, rfl, rfl, rfl⟩
theorem fl_X8_23 : az_fl "LetterNights$Tally" 23 7 3 (.array .int) true := ⟨RX8, TX8, 4, tyX8, rfl, by decide, tw_318, usX8, tyX8_ok, nmX8, rfl, rfl, rfl⟩
theorem fl_X1_35 : az_fl "LetterNights$Futures" 35 1 0 (.object "LetterNights$Town") false := ⟨RX1, TX1, 8, tyX1, rfl, by decide, tw_328, usX1, tyX1_ok, nmX1, rfl, rfl, rfl⟩
theorem fl_X1_11 : az_fl "LetterNights$Futures" 11 1 1 (.array .long) true := ⟨RX1, TX1, 8, tyX1, rfl, by decide, tw_329, usX1, tyX1_ok, nmX1, rfl, rfl, rfl⟩
theorem fl_X1_15 : az_fl "LetterNights$Futures" 15 1 2 (.array .int) true := ⟨RX1, TX1, 8, tyX1, rfl, by decide, tw_330, usX1, tyX1_ok, nmX1, rfl, rfl, rfl⟩
theorem fl_X1_19 : az_fl "LetterNights$Futures" 19 1 3 (.array .int) true := ⟨RX1, TX1, 8, tyX1, rfl, by decide, tw_331, usX1, tyX1_ok, nmX1, rfl, rfl, rfl⟩
theorem fl_X1_25 : az_fl "LetterNights$Futures" 25 1 4 (.object "LetterNights$Tally") true := ⟨RX1, TX1, 8, tyX1, rfl, by decide, tw_332, usX1, tyX1_ok, nmX1, rfl, rfl, rfl⟩
theorem fl_X1_98 : az_fl "LetterNights$Futures" 98 1 5 .boolean false := ⟨RX1, TX1, 8, tyX1, rfl, by decide, tw_333, usX1, tyX1_ok, nmX1, rfl, rfl, rfl⟩
theorem fl_X1_29 : az_fl "LetterNights$Futures" 29 1 6 (.array .int) false := ⟨RX1, TX1, 8, tyX1, rfl, by decide, tw_334, usX1, tyX1_ok, nmX1, rfl, rfl, rfl⟩
theorem fl_X1_32 : az_fl "LetterNights$Futures" 32 1 7 (.array .int) false := ⟨RX1, TX1, 8, tyX1, rfl, by decide, tw_335, usX1, tyX1_ok, nmX1, rfl, rfl, rfl⟩
theorem fl_X10_9 : az_fl "LetterNights$Tray" 9 9 0 .int false := ⟨RX10, TX10, 3, tyX10, rfl, by decide, tw_358, usX10, tyX10_ok, nmX10, rfl, rfl, rfl⟩
theorem fl_X0_29 : az_fl "LetterNights$Finder" 29 9 0 .int false := ⟨RX10, TX10, 3, tyX10, rfl, by decide, tw_359, usX10, tyX10_ok, nmX10, rfl, rfl, rfl⟩
theorem fl_X1_109 : az_fl "LetterNights$Futures" 109 9 0 .int false := ⟨RX10, TX10, 3, tyX10, rfl, by decide, tw_360, usX10, tyX10_ok, nmX10, rfl, rfl, rfl⟩
theorem fl_X11_199 : az_fl "LetterNights" 199 9 0 .int false := ⟨RX10, TX10, 3, tyX10, rfl, by decide, tw_361, usX10, tyX10_ok, nmX10, rfl, rfl, rfl⟩
theorem fl_X10_19 : az_fl "LetterNights$Tray" 19 9 1 .int false := ⟨RX10, TX10, 3, tyX10, rfl, by decide, tw_362, usX10, tyX10_ok, nmX10, rfl, rfl, rfl⟩
theorem fl_X10_15 : az_fl "LetterNights$Tray" 15 9 2 (.array .long) true := ⟨RX10, TX10, 3, tyX10, rfl, by decide, tw_363, usX10, tyX10_ok, nmX10, rfl, rfl, rfl⟩
theorem fl_X11_9 : az_fl "LetterNights" 9 10 0 (.array .byte) true := ⟨RX11, TX11, 12, tyX11, rfl, by decide, tw_371, usX11, tyX11_ok, nmX11, rfl, rfl, rfl⟩
theorem fl_X11_81 : az_fl "LetterNights" 81 10 1 .int false := ⟨RX11, TX11, 12, tyX11, rfl, by decide, tw_372, usX11, tyX11_ok, nmX11, rfl, rfl, rfl⟩
theorem fl_X11_16 : az_fl "LetterNights" 16 10 2 (.object "LetterNights$Reader") true := ⟨RX11, TX11, 12, tyX11, rfl, by decide, tw_373, usX11, tyX11_ok, nmX11, rfl, rfl, rfl⟩
theorem fl_X11_66 : az_fl "LetterNights" 66 10 3 (.object "LetterNights$Scene") true := ⟨RX11, TX11, 12, tyX11, rfl, by decide, tw_374, usX11, tyX11_ok, nmX11, rfl, rfl, rfl⟩
theorem fl_X11_70 : az_fl "LetterNights" 70 10 4 (.object "LetterNights$Scene") true := ⟨RX11, TX11, 12, tyX11, rfl, by decide, tw_375, usX11, tyX11_ok, nmX11, rfl, rfl, rfl⟩
theorem fl_X11_23 : az_fl "LetterNights" 23 10 5 (.object "LetterNights$Past") true := ⟨RX11, TX11, 12, tyX11, rfl, by decide, tw_376, usX11, tyX11_ok, nmX11, rfl, rfl, rfl⟩
theorem fl_X11_29 : az_fl "LetterNights" 29 10 6 (.array (.object "LetterNights$Scene")) true := ⟨RX11, TX11, 12, tyX11, rfl, by decide, tw_377, usX11, tyX11_ok, nmX11, rfl, rfl, rfl⟩
theorem fl_X11_35 : az_fl "LetterNights" 35 10 7 (.array (.object "LetterNights$Tray")) true := ⟨RX11, TX11, 12, tyX11, rfl, by decide, tw_378, usX11, tyX11_ok, nmX11, rfl, rfl, rfl⟩
theorem fl_X11_42 : az_fl "LetterNights" 42 10 8 (.object "LetterNights$Survey") true := ⟨RX11, TX11, 12, tyX11, rfl, by decide, tw_379, usX11, tyX11_ok, nmX11, rfl, rfl, rfl⟩
theorem fl_X11_49 : az_fl "LetterNights" 49 10 9 (.object "LetterNights$Finder") true := ⟨RX11, TX11, 12, tyX11, rfl, by decide, tw_380, usX11, tyX11_ok, nmX11, rfl, rfl, rfl⟩
theorem fl_X11_56 : az_fl "LetterNights" 56 10 10 (.object "LetterNights$Kin") true := ⟨RX11, TX11, 12, tyX11, rfl, by decide, tw_381, usX11, tyX11_ok, nmX11, rfl, rfl, rfl⟩
theorem fl_X11_76 : az_fl "LetterNights" 76 10 11 (.object "LetterNights$Futures") true := ⟨RX11, TX11, 12, tyX11, rfl, by decide, tw_382, usX11, tyX11_ok, nmX11, rfl, rfl, rfl⟩
theorem fl_X12_1 : az_fl "LetterNightsModel" 1 11 0 .int false := ⟨RX12, TX12, 45, tyX12, rfl, by decide, tw_1284, usX12, tyX12_ok, nmX12, rfl, rfl, rfl⟩
theorem fl_X12_13 : az_fl "LetterNightsModel" 13 11 1 (.array .int) true := ⟨RX12, TX12, 45, tyX12, rfl, by decide, tw_1285, usX12, tyX12_ok, nmX12, rfl, rfl, rfl⟩
theorem fl_X12_17 : az_fl "LetterNightsModel" 17 11 2 (.array .boolean) true := ⟨RX12, TX12, 45, tyX12, rfl, by decide, tw_1286, usX12, tyX12_ok, nmX12, rfl, rfl, rfl⟩
theorem fl_X12_21 : az_fl "LetterNightsModel" 21 11 3 (.array .int) true := ⟨RX12, TX12, 45, tyX12, rfl, by decide, tw_1287, usX12, tyX12_ok, nmX12, rfl, rfl, rfl⟩
theorem fl_X12_24 : az_fl "LetterNightsModel" 24 11 4 (.array .int) true := ⟨RX12, TX12, 45, tyX12, rfl, by decide, tw_1288, usX12, tyX12_ok, nmX12, rfl, rfl, rfl⟩
theorem fl_X12_107 : az_fl "LetterNightsModel" 107 11 5 .int false := ⟨RX12, TX12, 45, tyX12, rfl, by decide, tw_1289, usX12, tyX12_ok, nmX12, rfl, rfl, rfl⟩
theorem fl_X12_125 : az_fl "LetterNightsModel" 125 11 6 .int false := ⟨RX12, TX12, 45, tyX12, rfl, by decide, tw_1290, usX12, tyX12_ok, nmX12, rfl, rfl, rfl⟩
theorem fl_X12_128 : az_fl "LetterNightsModel" 128 11 7 .int false := ⟨RX12, TX12, 45, tyX12, rfl, by decide, tw_1291, usX12, tyX12_ok, nmX12, rfl, rfl, rfl⟩
theorem fl_X12_110 : az_fl "LetterNightsModel" 110 11 8 .int false := ⟨RX12, TX12, 45, tyX12, rfl, by decide, tw_1292, usX12, tyX12_ok, nmX12, rfl, rfl, rfl⟩
theorem fl_X12_135 : az_fl "LetterNightsModel" 135 11 9 .int false := ⟨RX12, TX12, 45, tyX12, rfl, by decide, tw_1293, usX12, tyX12_ok, nmX12, rfl, rfl, rfl⟩
theorem fl_X12_148 : az_fl "LetterNightsModel" 148 11 10 .int false := ⟨RX12, TX12, 45, tyX12, rfl, by decide, tw_1294, usX12, tyX12_ok, nmX12, rfl, rfl, rfl⟩
theorem fl_X12_153 : az_fl "LetterNightsModel" 153 11 11 .int false := ⟨RX12, TX12, 45, tyX12, rfl, by decide, tw_1295, usX12, tyX12_ok, nmX12, rfl, rfl, rfl⟩
theorem fl_X12_156 : az_fl "LetterNightsModel" 156 11 12 .int false := ⟨RX12, TX12, 45, tyX12, rfl, by decide, tw_1296, usX12, tyX12_ok, nmX12, rfl, rfl, rfl⟩
theorem fl_X12_232 : az_fl "LetterNightsModel" 232 11 13 .int false := ⟨RX12, TX12, 45, tyX12, rfl, by decide, tw_1297, usX12, tyX12_ok, nmX12, rfl, rfl, rfl⟩
theorem fl_X12_27 : az_fl "LetterNightsModel" 27 11 14 .int false := ⟨RX12, TX12, 45, tyX12, rfl, by decide, tw_1298, usX12, tyX12_ok, nmX12, rfl, rfl, rfl⟩
theorem fl_X12_30 : az_fl "LetterNightsModel" 30 11 15 (.array .int) true := ⟨RX12, TX12, 45, tyX12, rfl, by decide, tw_1299, usX12, tyX12_ok, nmX12, rfl, rfl, rfl⟩
theorem fl_X12_33 : az_fl "LetterNightsModel" 33 11 16 (.array .long) true := ⟨RX12, TX12, 45, tyX12, rfl, by decide, tw_1300, usX12, tyX12_ok, nmX12, rfl, rfl, rfl⟩
theorem fl_X12_37 : az_fl "LetterNightsModel" 37 11 17 (.array .long) true := ⟨RX12, TX12, 45, tyX12, rfl, by decide, tw_1301, usX12, tyX12_ok, nmX12, rfl, rfl, rfl⟩
theorem fl_X12_260 : az_fl "LetterNightsModel" 260 11 18 .long false := ⟨RX12, TX12, 45, tyX12, rfl, by decide, tw_1302, usX12, tyX12_ok, nmX12, rfl, rfl, rfl⟩
theorem fl_X12_40 : az_fl "LetterNightsModel" 40 11 19 (.array .int) true := ⟨RX12, TX12, 45, tyX12, rfl, by decide, tw_1303, usX12, tyX12_ok, nmX12, rfl, rfl, rfl⟩
theorem fl_X12_43 : az_fl "LetterNightsModel" 43 11 20 (.array .int) true := ⟨RX12, TX12, 45, tyX12, rfl, by decide, tw_1304, usX12, tyX12_ok, nmX12, rfl, rfl, rfl⟩
theorem fl_X12_46 : az_fl "LetterNightsModel" 46 11 21 (.array .int) true := ⟨RX12, TX12, 45, tyX12, rfl, by decide, tw_1305, usX12, tyX12_ok, nmX12, rfl, rfl, rfl⟩
theorem fl_X12_309 : az_fl "LetterNightsModel" 309 11 22 .int false := ⟨RX12, TX12, 45, tyX12, rfl, by decide, tw_1306, usX12, tyX12_ok, nmX12, rfl, rfl, rfl⟩
theorem fl_X12_338 : az_fl "LetterNightsModel" 338 11 23 .int false := ⟨RX12, TX12, 45, tyX12, rfl, by decide, tw_1307, usX12, tyX12_ok, nmX12, rfl, rfl, rfl⟩
theorem fl_X12_49 : az_fl "LetterNightsModel" 49 11 24 (.array .int) true := ⟨RX12, TX12, 45, tyX12, rfl, by decide, tw_1308, usX12, tyX12_ok, nmX12, rfl, rfl, rfl⟩
theorem fl_X12_363 : az_fl "LetterNightsModel" 363 11 25 .int false := ⟨RX12, TX12, 45, tyX12, rfl, by decide, tw_1309, usX12, tyX12_ok, nmX12, rfl, rfl, rfl⟩
theorem fl_X12_52 : az_fl "LetterNightsModel" 52 11 26 (.array .int) true := ⟨RX12, TX12, 45, tyX12, rfl, by decide, tw_1310, usX12, tyX12_ok, nmX12, rfl, rfl, rfl⟩
theorem fl_X12_55 : az_fl "LetterNightsModel" 55 11 27 (.array .int) true := ⟨RX12, TX12, 45, tyX12, rfl, by decide, tw_1311, usX12, tyX12_ok, nmX12, rfl, rfl, rfl⟩
theorem fl_X12_58 : az_fl "LetterNightsModel" 58 11 28 (.array .long) true := ⟨RX12, TX12, 45, tyX12, rfl, by decide, tw_1312, usX12, tyX12_ok, nmX12, rfl, rfl, rfl⟩
theorem fl_X12_376 : az_fl "LetterNightsModel" 376 11 29 .int false := ⟨RX12, TX12, 45, tyX12, rfl, by decide, tw_1313, usX12, tyX12_ok, nmX12, rfl, rfl, rfl⟩
theorem fl_X12_61 : az_fl "LetterNightsModel" 61 11 30 (.array .int) true := ⟨RX12, TX12, 45, tyX12, rfl, by decide, tw_1314, usX12, tyX12_ok, nmX12, rfl, rfl, rfl⟩
theorem fl_X12_64 : az_fl "LetterNightsModel" 64 11 31 (.array .int) true := ⟨RX12, TX12, 45, tyX12, rfl, by decide, tw_1315, usX12, tyX12_ok, nmX12, rfl, rfl, rfl⟩
theorem fl_X12_67 : az_fl "LetterNightsModel" 67 11 32 (.array .long) true := ⟨RX12, TX12, 45, tyX12, rfl, by decide, tw_1316, usX12, tyX12_ok, nmX12, rfl, rfl, rfl⟩
theorem fl_X12_70 : az_fl "LetterNightsModel" 70 11 33 (.array .int) true := ⟨RX12, TX12, 45, tyX12, rfl, by decide, tw_1317, usX12, tyX12_ok, nmX12, rfl, rfl, rfl⟩
theorem fl_X12_73 : az_fl "LetterNightsModel" 73 11 34 (.array .int) true := ⟨RX12, TX12, 45, tyX12, rfl, by decide, tw_1318, usX12, tyX12_ok, nmX12, rfl, rfl, rfl⟩
theorem fl_X12_76 : az_fl "LetterNightsModel" 76 11 35 (.array .int) true := ⟨RX12, TX12, 45, tyX12, rfl, by decide, tw_1319, usX12, tyX12_ok, nmX12, rfl, rfl, rfl⟩
theorem fl_X12_79 : az_fl "LetterNightsModel" 79 11 36 (.array .long) true := ⟨RX12, TX12, 45, tyX12, rfl, by decide, tw_1320, usX12, tyX12_ok, nmX12, rfl, rfl, rfl⟩
theorem fl_X12_456 : az_fl "LetterNightsModel" 456 11 37 .int false := ⟨RX12, TX12, 45, tyX12, rfl, by decide, tw_1321, usX12, tyX12_ok, nmX12, rfl, rfl, rfl⟩
theorem fl_X12_82 : az_fl "LetterNightsModel" 82 11 38 (.array .long) true := ⟨RX12, TX12, 45, tyX12, rfl, by decide, tw_1322, usX12, tyX12_ok, nmX12, rfl, rfl, rfl⟩
theorem fl_X12_85 : az_fl "LetterNightsModel" 85 11 39 (.array .long) true := ⟨RX12, TX12, 45, tyX12, rfl, by decide, tw_1323, usX12, tyX12_ok, nmX12, rfl, rfl, rfl⟩
theorem fl_X12_88 : az_fl "LetterNightsModel" 88 11 40 (.array .long) true := ⟨RX12, TX12, 45, tyX12, rfl, by decide, tw_1324, usX12, tyX12_ok, nmX12, rfl, rfl, rfl⟩
theorem fl_X12_91 : az_fl "LetterNightsModel" 91 11 41 (.array .long) true := ⟨RX12, TX12, 45, tyX12, rfl, by decide, tw_1325, usX12, tyX12_ok, nmX12, rfl, rfl, rfl⟩
theorem fl_X12_94 : az_fl "LetterNightsModel" 94 11 42 (.array .int) true := ⟨RX12, TX12, 45, tyX12, rfl, by decide, tw_1326, usX12, tyX12_ok, nmX12, rfl, rfl, rfl⟩
theorem fl_X12_97 : az_fl "LetterNightsModel" 97 11 43 (.array .int) true := ⟨RX12, TX12, 45, tyX12, rfl, by decide, tw_1327, usX12, tyX12_ok, nmX12, rfl, rfl, rfl⟩
theorem fl_X12_100 : az_fl "LetterNightsModel" 100 11 44 (.array .long) true := ⟨RX12, TX12, 45, tyX12, rfl, by decide, tw_1328, usX12, tyX12_ok, nmX12, rfl, rfl, rfl⟩
theorem ml_L_9 : az_mI "LetterNightsLaw" 9 mX11_init 0 := ⟨⟨tw_24, tw_1, kX11_init, ⟨by decide +kernel, by decide +kernel, by decide +kernel⟩, by decide⟩, tw_25, rfl⟩
theorem ml_X11_15 : az_mN "LetterNights" 15 mX5_init 0 := ⟨by decide +kernel, tw_2, kX5_init, ⟨by decide +kernel, by decide +kernel, by decide +kernel⟩, by decide, tw_33, rfl⟩
theorem ml_X11_22 : az_mN "LetterNights" 22 mX4_init 0 := ⟨by decide +kernel, tw_3, kX4_init, ⟨by decide +kernel, by decide +kernel, by decide +kernel⟩, by decide, tw_77, rfl⟩
theorem ml_X11_41 : az_mN "LetterNights" 41 mX7_init 0 := ⟨by decide +kernel, tw_4, kX7_init, ⟨by decide +kernel, by decide +kernel, by decide +kernel⟩, by decide, tw_101, rfl⟩
theorem ml_X11_48 : az_mN "LetterNights" 48 mX0_init 0 := ⟨by decide +kernel, tw_5, kX0_init, ⟨by decide +kernel, by decide +kernel, by decide +kernel⟩, by decide, tw_122, rfl⟩
theorem ml_X11_55 : az_mN "LetterNights" 55 mX2_init 0 := ⟨by decide +kernel, tw_6, kX2_init, ⟨by decide +kernel, by decide +kernel, by decide +kernel⟩, by decide, tw_154, rfl⟩
theorem ml_X11_62 : az_mI "LetterNights" 62 mX9_init 0 := ⟨⟨tw_166, tw_7, kX9_init, ⟨by decide +kernel, by decide +kernel, by decide +kernel⟩, by decide⟩, tw_167, rfl⟩
theorem ml_X11_63 : az_mI "LetterNights" 63 mX6_init 1 := ⟨⟨tw_223, tw_8, kX6_init, ⟨by decide +kernel, by decide +kernel, by decide +kernel⟩, by decide⟩, tw_224, rfl⟩
theorem ml_X6_36 : az_mV "LetterNights$Scene" 36 mX6_begin 1 5 := ⟨⟨tw_227, tw_8, kX6_begin, ⟨by decide +kernel, by decide +kernel, by decide +kernel⟩, by decide⟩, tw_228, tw_229, rfl⟩
theorem ml_X6_57 : az_mV "LetterNights$Scene" 57 mX6_layStart 0 5 := ⟨⟨tw_231, tw_8, kX6_layStart, ⟨by decide +kernel, by decide +kernel, by decide +kernel⟩, by decide⟩, tw_233, (az_memP 0 (by decide +kernel) (by decide +kernel)), rfl⟩
theorem ml_X6_83 : az_mS "LetterNights$Scene" 83 mJ7_fill_d0a16 2 := ⟨⟨tw_235, tw_9, kJ7_fill_d0a16, ⟨by decide +kernel, by decide +kernel, by decide +kernel⟩, by decide⟩, tw_236⟩
theorem ml_X6_95 : az_mS "LetterNights$Scene" 95 mX6_enlisted 3 := ⟨⟨tw_238, tw_8, kX6_enlisted, ⟨by decide +kernel, by decide +kernel, by decide +kernel⟩, by decide⟩, tw_239⟩
theorem ml_X11_75 : az_mI "LetterNights" 75 mX1_init 1 := ⟨⟨tw_305, tw_10, kX1_init, ⟨by decide +kernel, by decide +kernel, by decide +kernel⟩, by decide⟩, tw_306, rfl⟩
theorem ml_X1_24 : az_mN "LetterNights$Futures" 24 mX8_init 0 := ⟨by decide +kernel, tw_11, kX8_init, ⟨by decide +kernel, by decide +kernel, by decide +kernel⟩, by decide, tw_312, rfl⟩
theorem ml_X11_80 : az_mN "LetterNights" 80 mX10_init 0 := ⟨by decide +kernel, tw_12, kX10_init, ⟨by decide +kernel, by decide +kernel, by decide +kernel⟩, by decide, tw_355, rfl⟩
theorem ml_L_13 : az_mV "LetterNightsLaw" 13 mX11_feed 5 10 := ⟨⟨tw_408, tw_1, kX11_feed, ⟨by decide +kernel, by decide +kernel, by decide +kernel⟩, by decide⟩, tw_409, tw_410, rfl⟩
theorem ml_X11_85 : az_mV "LetterNights" 85 mX11_tapeBytes 1 10 := ⟨⟨tw_412, tw_1, kX11_tapeBytes, ⟨by decide +kernel, by decide +kernel, by decide +kernel⟩, by decide⟩, tw_414, (az_memP 1 (by decide +kernel) (by decide +kernel)), rfl⟩
theorem ml_L_18 : az_mV "LetterNightsLaw" 18 mX11_street 1 10 := ⟨⟨tw_416, tw_1, kX11_street, ⟨by decide +kernel, by decide +kernel, by decide +kernel⟩, by decide⟩, tw_417, tw_418, rfl⟩
theorem ml_X11_89 : az_mV "LetterNights" 89 mX5_readTown 2 4 := ⟨⟨tw_420, tw_2, kX5_readTown, ⟨by decide +kernel, by decide +kernel, by decide +kernel⟩, by decide⟩, tw_421, tw_422, rfl⟩
theorem ml_X5_29 : az_mS "LetterNights$Reader" 29 mJ9_min_7cf53 2 := ⟨⟨tw_424, tw_14, kJ9_min_7cf53, ⟨by decide +kernel, by decide +kernel, by decide +kernel⟩, by decide⟩, tw_425⟩
theorem ml_X5_41 : az_mV "LetterNights$Reader" 41 mX5_advance 0 4 := ⟨⟨tw_427, tw_2, kX5_advance, ⟨by decide +kernel, by decide +kernel, by decide +kernel⟩, by decide⟩, tw_429, (az_memP 2 (by decide +kernel) (by decide +kernel)), rfl⟩
theorem ml_X5_216 : az_mV "LetterNights$Reader" 216 mX5_runOn 2 4 := ⟨⟨tw_431, tw_2, kX5_runOn, ⟨by decide +kernel, by decide +kernel, by decide +kernel⟩, by decide⟩, tw_433, (az_memP 3 (by decide +kernel) (by decide +kernel)), rfl⟩
theorem ml_X5_220 : az_mV "LetterNights$Reader" 220 mX5_worthOfDigits 0 4 := ⟨⟨tw_435, tw_2, kX5_worthOfDigits, ⟨by decide +kernel, by decide +kernel, by decide +kernel⟩, by decide⟩, tw_437, (az_memP 4 (by decide +kernel) (by decide +kernel)), rfl⟩
theorem ml_J0_637 : az_mS "java/lang/String" 637 mJ1_indexOf_4cfef 4 := ⟨⟨tw_462, tw_16, kJ1_indexOf_4cfef, ⟨by decide +kernel, by decide +kernel, by decide +kernel⟩, by decide⟩, tw_463⟩
theorem ml_J1_88 : az_mS "java/lang/StringLatin1" 88 mJ1_canEncode_9a6ad 1 := ⟨⟨tw_465, tw_16, kJ1_canEncode_9a6ad, ⟨by decide +kernel, by decide +kernel, by decide +kernel⟩, by decide⟩, tw_466⟩
theorem ml_J1_92 : az_mS "java/lang/StringLatin1" 92 mJ9_max_7cf53 2 := ⟨⟨tw_468, tw_14, kJ9_max_7cf53, ⟨by decide +kernel, by decide +kernel, by decide +kernel⟩, by decide⟩, tw_469⟩
theorem ml_J1_38 : az_mS "java/lang/StringLatin1" 38 mJ9_min_7cf53 2 := ⟨⟨tw_471, tw_14, kJ9_min_7cf53, ⟨by decide +kernel, by decide +kernel, by decide +kernel⟩, by decide⟩, tw_425⟩
theorem ml_J1_95 : az_mS "java/lang/StringLatin1" 95 mJ1_indexOfChar_4cfef 4 := ⟨⟨tw_472, tw_16, kJ1_indexOfChar_4cfef, ⟨by decide +kernel, by decide +kernel, by decide +kernel⟩, by decide⟩, tw_473⟩
theorem ml_J0_640 : az_mS "java/lang/String" 640 mJ2_indexOf_4cfef 4 := ⟨⟨tw_475, tw_17, kJ2_indexOf_4cfef, ⟨by decide +kernel, by decide +kernel, by decide +kernel⟩, by decide⟩, tw_476⟩
theorem ml_J2_224 : az_mS "java/lang/StringUTF16" 224 mJ9_max_7cf53 2 := ⟨⟨tw_478, tw_14, kJ9_max_7cf53, ⟨by decide +kernel, by decide +kernel, by decide +kernel⟩, by decide⟩, tw_469⟩
theorem ml_J2_183 : az_mS "java/lang/StringUTF16" 183 mJ9_min_7cf53 2 := ⟨⟨tw_479, tw_14, kJ9_min_7cf53, ⟨by decide +kernel, by decide +kernel, by decide +kernel⟩, by decide⟩, tw_425⟩
theorem ml_J2_228 : az_mS "java/lang/StringUTF16" 228 mJ2_indexOfChar_4cfef 4 := ⟨⟨tw_481, tw_17, kJ2_indexOfChar_4cfef, ⟨by decide +kernel, by decide +kernel, by decide +kernel⟩, by decide⟩, tw_482⟩
theorem ml_J2_96 : az_mS "java/lang/StringUTF16" 96 mJ2_checkBoundsBeginEnd_d044e 3 := ⟨⟨tw_484, tw_17, kJ2_checkBoundsBeginEnd_d044e, ⟨by decide +kernel, by decide +kernel, by decide +kernel⟩, by decide⟩, tw_485⟩
theorem ml_J2_48 : az_mS "java/lang/StringUTF16" 48 mJ2_length_9d52b 1 := ⟨⟨tw_487, tw_17, kJ2_length_9d52b, ⟨by decide +kernel, by decide +kernel, by decide +kernel⟩, by decide⟩, tw_488⟩
theorem ml_J2_241 : az_mS "java/lang/StringUTF16" 241 mJ0_checkBoundsBeginEnd_23922 3 := ⟨⟨tw_490, tw_15, kJ0_checkBoundsBeginEnd_23922, ⟨by decide +kernel, by decide +kernel, by decide +kernel⟩, by decide⟩, tw_491⟩
theorem ml_J0_1062 : az_mS "java/lang/String" 1062 mJ3_checkFromToIndex_8c36e 4 := ⟨⟨tw_495, tw_18, kJ3_checkFromToIndex_8c36e, ⟨by decide +kernel, by decide +kernel, by decide +kernel⟩, by decide⟩, tw_496⟩
theorem ml_J2_244 : az_mS "java/lang/StringUTF16" 244 mJ2_indexOfCharUnsafe_4cfef 4 := ⟨⟨tw_498, tw_17, kJ2_indexOfCharUnsafe_4cfef, ⟨by decide +kernel, by decide +kernel, by decide +kernel⟩, by decide⟩, tw_499⟩
theorem ml_J2_71 : az_mS "java/lang/StringUTF16" 71 mJ2_getChar_3b067 2 := ⟨⟨tw_501, tw_17, kJ2_getChar_3b067, ⟨by decide +kernel, by decide +kernel, by decide +kernel⟩, by decide⟩, tw_502⟩
theorem ml_J2_232 : az_mS "java/lang/StringUTF16" 232 mJ2_indexOfSupplementary_4cfef 4 := ⟨⟨tw_510, tw_17, kJ2_indexOfSupplementary_4cfef, ⟨by decide +kernel, by decide +kernel, by decide +kernel⟩, by decide⟩, tw_511⟩
theorem ml_J2_164 : az_mS "java/lang/StringUTF16" 164 mJ11_isValidCodePoint_9a6ad 1 := ⟨⟨tw_513, tw_19, kJ11_isValidCodePoint_9a6ad, ⟨by decide +kernel, by decide +kernel, by decide +kernel⟩, by decide⟩, tw_514⟩
theorem ml_J2_157 : az_mS "java/lang/StringUTF16" 157 mJ11_highSurrogate_5068e 1 := ⟨⟨tw_516, tw_19, kJ11_highSurrogate_5068e, ⟨by decide +kernel, by decide +kernel, by decide +kernel⟩, by decide⟩, tw_517⟩
theorem ml_J2_161 : az_mS "java/lang/StringUTF16" 161 mJ11_lowSurrogate_5068e 1 := ⟨⟨tw_520, tw_19, kJ11_lowSurrogate_5068e, ⟨by decide +kernel, by decide +kernel, by decide +kernel⟩, by decide⟩, tw_521⟩
theorem ml_X5_46 : az_mI "LetterNights$Reader" 46 mX9_init 0 := ⟨⟨tw_525, tw_7, kX9_init, ⟨by decide +kernel, by decide +kernel, by decide +kernel⟩, by decide⟩, tw_167, rfl⟩
theorem ml_X5_47 : az_mV "LetterNights$Reader" 47 mX5_readHead 1 4 := ⟨⟨tw_526, tw_2, kX5_readHead, ⟨by decide +kernel, by decide +kernel, by decide +kernel⟩, by decide⟩, tw_528, (az_memP 5 (by decide +kernel) (by decide +kernel)), rfl⟩
theorem ml_X5_59 : az_mV "LetterNights$Reader" 59 mX5_takeWord 1 4 := ⟨⟨tw_531, tw_2, kX5_takeWord, ⟨by decide +kernel, by decide +kernel, by decide +kernel⟩, by decide⟩, tw_533, (az_memP 6 (by decide +kernel) (by decide +kernel)), rfl⟩
theorem ml_X5_87 : az_mV "LetterNights$Reader" 87 mX5_isWord 1 4 := ⟨⟨tw_535, tw_2, kX5_isWord, ⟨by decide +kernel, by decide +kernel, by decide +kernel⟩, by decide⟩, tw_537, (az_memP 7 (by decide +kernel) (by decide +kernel)), rfl⟩
theorem ml_J0_495 : az_mS "java/lang/String" 495 mJ1_charAt_3b067 2 := ⟨⟨tw_544, tw_16, kJ1_charAt_3b067, ⟨by decide +kernel, by decide +kernel, by decide +kernel⟩, by decide⟩, tw_545⟩
theorem ml_J1_9 : az_mS "java/lang/StringLatin1" 9 mJ0_checkIndex_df160 2 := ⟨⟨tw_547, tw_15, kJ0_checkIndex_df160, ⟨by decide +kernel, by decide +kernel, by decide +kernel⟩, by decide⟩, tw_548⟩
theorem ml_J0_1059 : az_mS "java/lang/String" 1059 mJ3_checkIndex_8e157 3 := ⟨⟨tw_550, tw_18, kJ3_checkIndex_8e157, ⟨by decide +kernel, by decide +kernel, by decide +kernel⟩, by decide⟩, tw_551⟩
theorem ml_J0_498 : az_mS "java/lang/String" 498 mJ2_charAt_3b067 2 := ⟨⟨tw_553, tw_17, kJ2_charAt_3b067, ⟨by decide +kernel, by decide +kernel, by decide +kernel⟩, by decide⟩, tw_554⟩
theorem ml_J2_67 : az_mS "java/lang/StringUTF16" 67 mJ2_checkIndex_2214a 2 := ⟨⟨tw_556, tw_17, kJ2_checkIndex_2214a, ⟨by decide +kernel, by decide +kernel, by decide +kernel⟩, by decide⟩, tw_557⟩
theorem ml_J2_414 : az_mS "java/lang/StringUTF16" 414 mJ0_checkIndex_df160 2 := ⟨⟨tw_559, tw_15, kJ0_checkIndex_df160, ⟨by decide +kernel, by decide +kernel, by decide +kernel⟩, by decide⟩, tw_548⟩
theorem ml_X5_128 : az_mV "LetterNights$Reader" 128 mX5_fail 1 4 := ⟨⟨tw_560, tw_2, kX5_fail, ⟨by decide +kernel, by decide +kernel, by decide +kernel⟩, by decide⟩, tw_562, (az_memP 8 (by decide +kernel) (by decide +kernel)), rfl⟩
theorem ml_X5_65 : az_mV "LetterNights$Reader" 65 mX5_takeNumber 2 4 := ⟨⟨tw_565, tw_2, kX5_takeNumber, ⟨by decide +kernel, by decide +kernel, by decide +kernel⟩, by decide⟩, tw_567, (az_memP 9 (by decide +kernel) (by decide +kernel)), rfl⟩
theorem ml_X5_81 : az_mV "LetterNights$Reader" 81 mX5_takeSign 1 4 := ⟨⟨tw_570, tw_2, kX5_takeSign, ⟨by decide +kernel, by decide +kernel, by decide +kernel⟩, by decide⟩, tw_572, (az_memP 10 (by decide +kernel) (by decide +kernel)), rfl⟩
theorem ml_X5_169 : az_mV "LetterNights$Reader" 169 mX5_isSign 1 4 := ⟨⟨tw_574, tw_2, kX5_isSign, ⟨by decide +kernel, by decide +kernel, by decide +kernel⟩, by decide⟩, tw_576, (az_memP 11 (by decide +kernel) (by decide +kernel)), rfl⟩
theorem ml_X5_54 : az_mV "LetterNights$Reader" 54 mX5_readLine 1 4 := ⟨⟨tw_578, tw_2, kX5_readLine, ⟨by decide +kernel, by decide +kernel, by decide +kernel⟩, by decide⟩, tw_580, (az_memP 12 (by decide +kernel) (by decide +kernel)), rfl⟩
theorem ml_X5_90 : az_mV "LetterNights$Reader" 90 mX5_readStands 1 4 := ⟨⟨tw_583, tw_2, kX5_readStands, ⟨by decide +kernel, by decide +kernel, by decide +kernel⟩, by decide⟩, tw_585, (az_memP 13 (by decide +kernel) (by decide +kernel)), rfl⟩
theorem ml_X5_133 : az_mV "LetterNights$Reader" 133 mX5_takeLetters 3 4 := ⟨⟨tw_587, tw_2, kX5_takeLetters, ⟨by decide +kernel, by decide +kernel, by decide +kernel⟩, by decide⟩, tw_589, (az_memP 14 (by decide +kernel) (by decide +kernel)), rfl⟩
theorem ml_X5_95 : az_mV "LetterNights$Reader" 95 mX5_readRule 1 4 := ⟨⟨tw_592, tw_2, kX5_readRule, ⟨by decide +kernel, by decide +kernel, by decide +kernel⟩, by decide⟩, tw_594, (az_memP 15 (by decide +kernel) (by decide +kernel)), rfl⟩
theorem ml_X5_100 : az_mV "LetterNights$Reader" 100 mX5_openLaw 0 4 := ⟨⟨tw_598, tw_2, kX5_openLaw, ⟨by decide +kernel, by decide +kernel, by decide +kernel⟩, by decide⟩, tw_600, (az_memP 16 (by decide +kernel) (by decide +kernel)), rfl⟩
theorem ml_X5_104 : az_mV "LetterNights$Reader" 104 mX5_readSum 1 4 := ⟨⟨tw_602, tw_2, kX5_readSum, ⟨by decide +kernel, by decide +kernel, by decide +kernel⟩, by decide⟩, tw_604, (az_memP 17 (by decide +kernel) (by decide +kernel)), rfl⟩
theorem ml_X5_176 : az_mV "LetterNights$Reader" 176 mX5_readTerm 1 4 := ⟨⟨tw_606, tw_2, kX5_readTerm, ⟨by decide +kernel, by decide +kernel, by decide +kernel⟩, by decide⟩, tw_608, (az_memP 18 (by decide +kernel) (by decide +kernel)), rfl⟩
theorem ml_X5_179 : az_mV "LetterNights$Reader" 179 mX5_readAtom 1 4 := ⟨⟨tw_610, tw_2, kX5_readAtom, ⟨by decide +kernel, by decide +kernel, by decide +kernel⟩, by decide⟩, tw_612, (az_memP 19 (by decide +kernel) (by decide +kernel)), rfl⟩
theorem ml_X5_166 : az_mV "LetterNights$Reader" 166 mX5_goDeeper 1 4 := ⟨⟨tw_614, tw_2, kX5_goDeeper, ⟨by decide +kernel, by decide +kernel, by decide +kernel⟩, by decide⟩, tw_616, (az_memP 20 (by decide +kernel) (by decide +kernel)), rfl⟩
theorem ml_X5_184 : az_mV "LetterNights$Reader" 184 mX5_readChoice 1 4 := ⟨⟨tw_619, tw_2, kX5_readChoice, ⟨by decide +kernel, by decide +kernel, by decide +kernel⟩, by decide⟩, tw_621, (az_memP 21 (by decide +kernel) (by decide +kernel)), rfl⟩
theorem ml_X5_122 : az_mV "LetterNights$Reader" 122 mX5_readTruth 1 4 := ⟨⟨tw_623, tw_2, kX5_readTruth, ⟨by decide +kernel, by decide +kernel, by decide +kernel⟩, by decide⟩, tw_625, (az_memP 22 (by decide +kernel) (by decide +kernel)), rfl⟩
theorem ml_X5_148 : az_mV "LetterNights$Reader" 148 mX5_readBoth 1 4 := ⟨⟨tw_627, tw_2, kX5_readBoth, ⟨by decide +kernel, by decide +kernel, by decide +kernel⟩, by decide⟩, tw_629, (az_memP 23 (by decide +kernel) (by decide +kernel)), rfl⟩
theorem ml_X5_159 : az_mV "LetterNights$Reader" 159 mX5_readUnit 1 4 := ⟨⟨tw_631, tw_2, kX5_readUnit, ⟨by decide +kernel, by decide +kernel, by decide +kernel⟩, by decide⟩, tw_633, (az_memP 24 (by decide +kernel) (by decide +kernel)), rfl⟩
theorem ml_X5_155 : az_mV "LetterNights$Reader" 155 mX5_encode 1 4 := ⟨⟨tw_636, tw_2, kX5_encode, ⟨by decide +kernel, by decide +kernel, by decide +kernel⟩, by decide⟩, tw_638, (az_memP 25 (by decide +kernel) (by decide +kernel)), rfl⟩
theorem ml_X5_172 : az_mV "LetterNights$Reader" 172 mX5_lawOfComparison 0 4 := ⟨⟨tw_640, tw_2, kX5_lawOfComparison, ⟨by decide +kernel, by decide +kernel, by decide +kernel⟩, by decide⟩, tw_642, (az_memP 26 (by decide +kernel) (by decide +kernel)), rfl⟩
theorem ml_X5_187 : az_mV "LetterNights$Reader" 187 mX5_lawOfName 0 4 := ⟨⟨tw_649, tw_2, kX5_lawOfName, ⟨by decide +kernel, by decide +kernel, by decide +kernel⟩, by decide⟩, tw_651, (az_memP 27 (by decide +kernel) (by decide +kernel)), rfl⟩
theorem ml_X5_111 : az_mS "LetterNights$Reader" 111 mJ7_copyOf_59c91 2 := ⟨⟨tw_657, tw_9, kJ7_copyOf_59c91, ⟨by decide +kernel, by decide +kernel, by decide +kernel⟩, by decide⟩, tw_658⟩
theorem ml_J7_304 : az_mS "java/util/Arrays" 304 mJ9_min_7cf53 2 := ⟨⟨tw_667, tw_14, kJ9_min_7cf53, ⟨by decide +kernel, by decide +kernel, by decide +kernel⟩, by decide⟩, tw_425⟩
theorem ml_X11_96 : az_mV "LetterNights" 96 mX6_begin 1 5 := ⟨⟨tw_672, tw_8, kX6_begin, ⟨by decide +kernel, by decide +kernel, by decide +kernel⟩, by decide⟩, tw_228, tw_229, rfl⟩
theorem ml_X11_99 : az_mV "LetterNights" 99 mX4_forget 0 3 := ⟨⟨tw_673, tw_3, kX4_forget, ⟨by decide +kernel, by decide +kernel, by decide +kernel⟩, by decide⟩, tw_674, tw_675, rfl⟩
theorem ml_L_23 : az_mV "LetterNightsLaw" 23 mX11_fault 1 10 := ⟨⟨tw_677, tw_1, kX11_fault, ⟨by decide +kernel, by decide +kernel, by decide +kernel⟩, by decide⟩, tw_678, tw_679, rfl⟩
theorem ml_L_27 : az_mV "LetterNightsLaw" 27 mX11_becomes 3 10 := ⟨⟨tw_681, tw_1, kX11_becomes, ⟨by decide +kernel, by decide +kernel, by decide +kernel⟩, by decide⟩, tw_682, tw_683, rfl⟩
theorem ml_X11_108 : az_mV "LetterNights" 108 mX11_isTable 1 10 := ⟨⟨tw_685, tw_1, kX11_isTable, ⟨by decide +kernel, by decide +kernel, by decide +kernel⟩, by decide⟩, tw_687, (az_memP 28 (by decide +kernel) (by decide +kernel)), rfl⟩
theorem ml_X11_112 : az_mS "LetterNights" 112 mX11_isLetter 1 := ⟨⟨tw_689, tw_1, kX11_isLetter, ⟨by decide +kernel, by decide +kernel, by decide +kernel⟩, by decide⟩, tw_690⟩
theorem ml_X11_120 : az_mV "LetterNights" 120 mX9_sizeOf 2 8 := ⟨⟨tw_693, tw_7, kX9_sizeOf, ⟨by decide +kernel, by decide +kernel, by decide +kernel⟩, by decide⟩, tw_694, tw_695, rfl⟩
theorem ml_X11_124 : az_mV "LetterNights" 124 mX9_childOf 3 8 := ⟨⟨tw_697, tw_7, kX9_childOf, ⟨by decide +kernel, by decide +kernel, by decide +kernel⟩, by decide⟩, tw_698, tw_699, rfl⟩
theorem ml_L_32 : az_mV "LetterNightsLaw" 32 mX11_picks 0 10 := ⟨⟨tw_701, tw_1, kX11_picks, ⟨by decide +kernel, by decide +kernel, by decide +kernel⟩, by decide⟩, tw_702, tw_703, rfl⟩
theorem ml_X11_128 : az_mV "LetterNights" 128 mX6_asleep 0 5 := ⟨⟨tw_705, tw_8, kX6_asleep, ⟨by decide +kernel, by decide +kernel, by decide +kernel⟩, by decide⟩, tw_706, tw_707, rfl⟩
theorem ml_X6_127 : az_mS "LetterNights$Scene" 127 mX3_valueOf 2 := ⟨⟨tw_709, tw_21, kX3_valueOf, ⟨by decide +kernel, by decide +kernel, by decide +kernel⟩, by decide⟩, tw_710⟩
theorem ml_X3_13 : az_mS "LetterNights$Law" 13 mX3_needsOf 1 := ⟨⟨tw_712, tw_21, kX3_needsOf, ⟨by decide +kernel, by decide +kernel, by decide +kernel⟩, by decide⟩, tw_713⟩
theorem ml_X3_19 : az_mS "LetterNights$Law" 19 mX3_atomOf 2 := ⟨⟨tw_715, tw_21, kX3_atomOf, ⟨by decide +kernel, by decide +kernel, by decide +kernel⟩, by decide⟩, tw_716⟩
theorem ml_X3_34 : az_mV "LetterNights$Law" 34 mX6_frontLetter 0 5 := ⟨⟨tw_718, tw_8, kX6_frontLetter, ⟨by decide +kernel, by decide +kernel, by decide +kernel⟩, by decide⟩, tw_719, tw_720, rfl⟩
theorem ml_X3_38 : az_mV "LetterNights$Law" 38 mX6_backLetter 0 5 := ⟨⟨tw_722, tw_8, kX6_backLetter, ⟨by decide +kernel, by decide +kernel, by decide +kernel⟩, by decide⟩, tw_723, tw_724, rfl⟩
theorem ml_X3_23 : az_mS "LetterNights$Law" 23 mX3_joined 3 := ⟨⟨tw_727, tw_21, kX3_joined, ⟨by decide +kernel, by decide +kernel, by decide +kernel⟩, by decide⟩, tw_728⟩
theorem ml_X3_47 : az_mS "LetterNights$Law" 47 mX3_kept 1 := ⟨⟨tw_730, tw_21, kX3_kept, ⟨by decide +kernel, by decide +kernel, by decide +kernel⟩, by decide⟩, tw_731⟩
theorem ml_X3_55 : az_mS "LetterNights$Law" 55 mJ9_min_f86c9 2 := ⟨⟨tw_735, tw_14, kJ9_min_f86c9, ⟨by decide +kernel, by decide +kernel, by decide +kernel⟩, by decide⟩, tw_736⟩
theorem ml_X3_61 : az_mS "LetterNights$Law" 61 mJ9_max_f86c9 2 := ⟨⟨tw_738, tw_14, kJ9_max_f86c9, ⟨by decide +kernel, by decide +kernel, by decide +kernel⟩, by decide⟩, tw_739⟩
theorem ml_X11_132 : az_mV "LetterNights" 132 mX6_pickedTable 0 5 := ⟨⟨tw_741, tw_8, kX6_pickedTable, ⟨by decide +kernel, by decide +kernel, by decide +kernel⟩, by decide⟩, tw_742, tw_743, rfl⟩
theorem ml_X6_134 : az_mS "LetterNights$Scene" 134 mJ9_floorMod_7cf53 2 := ⟨⟨tw_745, tw_14, kJ9_floorMod_7cf53, ⟨by decide +kernel, by decide +kernel, by decide +kernel⟩, by decide⟩, tw_746⟩
theorem ml_L_37 : az_mV "LetterNightsLaw" 37 mX11_length 0 10 := ⟨⟨tw_748, tw_1, kX11_length, ⟨by decide +kernel, by decide +kernel, by decide +kernel⟩, by decide⟩, tw_749, tw_750, rfl⟩
theorem ml_L_44 : az_mV "LetterNightsLaw" 44 mX11_letter 1 10 := ⟨⟨tw_752, tw_1, kX11_letter, ⟨by decide +kernel, by decide +kernel, by decide +kernel⟩, by decide⟩, tw_753, tw_754, rfl⟩
theorem ml_X11_140 : az_mV "LetterNights" 140 mX7_measure 1 6 := ⟨⟨tw_756, tw_4, kX7_measure, ⟨by decide +kernel, by decide +kernel, by decide +kernel⟩, by decide⟩, tw_757, tw_758, rfl⟩
theorem ml_X7_18 : az_mS "LetterNights$Survey" 18 mX7_fill 3 := ⟨⟨tw_760, tw_4, kX7_fill, ⟨by decide +kernel, by decide +kernel, by decide +kernel⟩, by decide⟩, tw_761⟩
theorem ml_X7_44 : az_mV "LetterNights$Survey" 44 mX9_sizeOf 2 8 := ⟨⟨tw_763, tw_7, kX9_sizeOf, ⟨by decide +kernel, by decide +kernel, by decide +kernel⟩, by decide⟩, tw_694, tw_695, rfl⟩
theorem ml_X7_50 : az_mV "LetterNights$Survey" 50 mX9_childOf 3 8 := ⟨⟨tw_764, tw_7, kX9_childOf, ⟨by decide +kernel, by decide +kernel, by decide +kernel⟩, by decide⟩, tw_698, tw_699, rfl⟩
theorem ml_X7_56 : az_mS "LetterNights$Survey" 56 mJ9_min_f86c9 2 := ⟨⟨tw_766, tw_14, kJ9_min_f86c9, ⟨by decide +kernel, by decide +kernel, by decide +kernel⟩, by decide⟩, tw_736⟩
theorem ml_X11_144 : az_mV "LetterNights" 144 mX7_letterAt 2 6 := ⟨⟨tw_767, tw_4, kX7_letterAt, ⟨by decide +kernel, by decide +kernel, by decide +kernel⟩, by decide⟩, tw_768, tw_769, rfl⟩
theorem ml_X7_22 : az_mV "LetterNights$Survey" 22 mX7_descend 4 6 := ⟨⟨tw_771, tw_4, kX7_descend, ⟨by decide +kernel, by decide +kernel, by decide +kernel⟩, by decide⟩, tw_773, (az_memP 29 (by decide +kernel) (by decide +kernel)), rfl⟩
theorem ml_X7_71 : az_mV "LetterNights$Survey" 71 mX7_isWithin 3 6 := ⟨⟨tw_775, tw_4, kX7_isWithin, ⟨by decide +kernel, by decide +kernel, by decide +kernel⟩, by decide⟩, tw_777, (az_memP 30 (by decide +kernel) (by decide +kernel)), rfl⟩
theorem ml_X7_75 : az_mV "LetterNights$Survey" 75 mX7_childWithin 5 6 := ⟨⟨tw_779, tw_4, kX7_childWithin, ⟨by decide +kernel, by decide +kernel, by decide +kernel⟩, by decide⟩, tw_781, (az_memP 31 (by decide +kernel) (by decide +kernel)), rfl⟩
theorem ml_L_49 : az_mV "LetterNightsLaw" 49 mX11_count 2 10 := ⟨⟨tw_783, tw_1, kX11_count, ⟨by decide +kernel, by decide +kernel, by decide +kernel⟩, by decide⟩, tw_784, tw_785, rfl⟩
theorem ml_X11_156 : az_mV "LetterNights" 156 mX7_countAhead 3 6 := ⟨⟨tw_789, tw_4, kX7_countAhead, ⟨by decide +kernel, by decide +kernel, by decide +kernel⟩, by decide⟩, tw_790, tw_791, rfl⟩
theorem ml_L_54 : az_mV "LetterNightsLaw" 54 mX11_place 2 10 := ⟨⟨tw_793, tw_1, kX11_place, ⟨by decide +kernel, by decide +kernel, by decide +kernel⟩, by decide⟩, tw_794, tw_795, rfl⟩
theorem ml_X11_162 : az_mV "LetterNights" 162 mX7_placeOf 3 6 := ⟨⟨tw_798, tw_4, kX7_placeOf, ⟨by decide +kernel, by decide +kernel, by decide +kernel⟩, by decide⟩, tw_799, tw_800, rfl⟩
theorem ml_L_58 : az_mV "LetterNightsLaw" 58 mX11_night 1 10 := ⟨⟨tw_802, tw_1, kX11_night, ⟨by decide +kernel, by decide +kernel, by decide +kernel⟩, by decide⟩, tw_803, tw_804, rfl⟩
theorem ml_X11_167 : az_mV "LetterNights" 167 mX4_mark 1 3 := ⟨⟨tw_807, tw_3, kX4_mark, ⟨by decide +kernel, by decide +kernel, by decide +kernel⟩, by decide⟩, tw_808, tw_809, rfl⟩
theorem ml_X11_170 : az_mV "LetterNights" 170 mX6_tryDeed 1 5 := ⟨⟨tw_811, tw_8, kX6_tryDeed, ⟨by decide +kernel, by decide +kernel, by decide +kernel⟩, by decide⟩, tw_812, tw_813, rfl⟩
theorem ml_X6_99 : az_mV "LetterNights$Scene" 99 mX6_asleep 0 5 := ⟨⟨tw_815, tw_8, kX6_asleep, ⟨by decide +kernel, by decide +kernel, by decide +kernel⟩, by decide⟩, tw_706, tw_707, rfl⟩
theorem ml_X6_103 : az_mV "LetterNights$Scene" 103 mX6_pickedTable 0 5 := ⟨⟨tw_816, tw_8, kX6_pickedTable, ⟨by decide +kernel, by decide +kernel, by decide +kernel⟩, by decide⟩, tw_742, tw_743, rfl⟩
theorem ml_X6_107 : az_mV "LetterNights$Scene" 107 mX6_tryTable 1 5 := ⟨⟨tw_817, tw_8, kX6_tryTable, ⟨by decide +kernel, by decide +kernel, by decide +kernel⟩, by decide⟩, tw_819, (az_memP 32 (by decide +kernel) (by decide +kernel)), rfl⟩
theorem ml_X6_118 : az_mV "LetterNights$Scene" 118 mX6_spanBy 1 5 := ⟨⟨tw_821, tw_8, kX6_spanBy, ⟨by decide +kernel, by decide +kernel, by decide +kernel⟩, by decide⟩, tw_823, (az_memP 33 (by decide +kernel) (by decide +kernel)), rfl⟩
theorem ml_X6_137 : az_mV "LetterNights$Scene" 137 mX9_sizeOf 2 8 := ⟨⟨tw_825, tw_7, kX9_sizeOf, ⟨by decide +kernel, by decide +kernel, by decide +kernel⟩, by decide⟩, tw_694, tw_695, rfl⟩
theorem ml_X6_79 : az_mV "LetterNights$Scene" 79 mX6_grow 1 5 := ⟨⟨tw_827, tw_8, kX6_grow, ⟨by decide +kernel, by decide +kernel, by decide +kernel⟩, by decide⟩, tw_829, (az_memP 34 (by decide +kernel) (by decide +kernel)), rfl⟩
theorem ml_X6_140 : az_mV "LetterNights$Scene" 140 mX6_growCounts 1 5 := ⟨⟨tw_831, tw_8, kX6_growCounts, ⟨by decide +kernel, by decide +kernel, by decide +kernel⟩, by decide⟩, tw_833, (az_memP 35 (by decide +kernel) (by decide +kernel)), rfl⟩
theorem ml_X6_147 : az_mV "LetterNights$Scene" 147 mX9_childOf 3 8 := ⟨⟨tw_835, tw_7, kX9_childOf, ⟨by decide +kernel, by decide +kernel, by decide +kernel⟩, by decide⟩, tw_698, tw_699, rfl⟩
theorem ml_X6_143 : az_mV "LetterNights$Scene" 143 mX6_growOrder 3 5 := ⟨⟨tw_837, tw_8, kX6_growOrder, ⟨by decide +kernel, by decide +kernel, by decide +kernel⟩, by decide⟩, tw_839, (az_memP 36 (by decide +kernel) (by decide +kernel)), rfl⟩
theorem ml_X11_174 : az_mV "LetterNights" 174 mX4_keepMark 0 3 := ⟨⟨tw_843, tw_3, kX4_keepMark, ⟨by decide +kernel, by decide +kernel, by decide +kernel⟩, by decide⟩, tw_844, tw_845, rfl⟩
theorem ml_L_63 : az_mV "LetterNightsLaw" 63 mX11_nights 1 10 := ⟨⟨tw_848, tw_1, kX11_nights, ⟨by decide +kernel, by decide +kernel, by decide +kernel⟩, by decide⟩, tw_849, tw_850, rfl⟩
theorem ml_X11_177 : az_mV "LetterNights" 177 mX11_keepIfDone 1 10 := ⟨⟨tw_852, tw_1, kX11_keepIfDone, ⟨by decide +kernel, by decide +kernel, by decide +kernel⟩, by decide⟩, tw_854, (az_memP 37 (by decide +kernel) (by decide +kernel)), rfl⟩
theorem ml_L_67 : az_mV "LetterNightsLaw" 67 mX11_moon 1 10 := ⟨⟨tw_856, tw_1, kX11_moon, ⟨by decide +kernel, by decide +kernel, by decide +kernel⟩, by decide⟩, tw_857, tw_858, rfl⟩
theorem ml_L_71 : az_mV "LetterNightsLaw" 71 mX11_undo 1 10 := ⟨⟨tw_860, tw_1, kX11_undo, ⟨by decide +kernel, by decide +kernel, by decide +kernel⟩, by decide⟩, tw_861, tw_862, rfl⟩
theorem ml_X11_186 : az_mV "LetterNights" 186 mX4_goBack 2 3 := ⟨⟨tw_864, tw_3, kX4_goBack, ⟨by decide +kernel, by decide +kernel, by decide +kernel⟩, by decide⟩, tw_865, tw_866, rfl⟩
theorem ml_X4_40 : az_mV "LetterNights$Past" 40 mX6_rewind 3 5 := ⟨⟨tw_868, tw_8, kX6_rewind, ⟨by decide +kernel, by decide +kernel, by decide +kernel⟩, by decide⟩, tw_869, tw_870, rfl⟩
theorem ml_X6_73 : az_mS "LetterNights$Scene" 73 mJ9_min_7cf53 2 := ⟨⟨tw_872, tw_14, kJ9_min_7cf53, ⟨by decide +kernel, by decide +kernel, by decide +kernel⟩, by decide⟩, tw_425⟩
theorem ml_L_75 : az_mV "LetterNightsLaw" 75 mX11_judge 2 10 := ⟨⟨tw_873, tw_1, kX11_judge, ⟨by decide +kernel, by decide +kernel, by decide +kernel⟩, by decide⟩, tw_874, tw_875, rfl⟩
theorem ml_X11_190 : az_mS "LetterNights" 190 mX11_isTray 1 := ⟨⟨tw_877, tw_1, kX11_isTray, ⟨by decide +kernel, by decide +kernel, by decide +kernel⟩, by decide⟩, tw_878⟩
theorem ml_X11_193 : az_mV "LetterNights" 193 mX10_missing 0 9 := ⟨⟨tw_880, tw_12, kX10_missing, ⟨by decide +kernel, by decide +kernel, by decide +kernel⟩, by decide⟩, tw_881, tw_882, rfl⟩
theorem ml_X11_196 : az_mV "LetterNights" 196 mX6_copyFrom 1 5 := ⟨⟨tw_884, tw_8, kX6_copyFrom, ⟨by decide +kernel, by decide +kernel, by decide +kernel⟩, by decide⟩, tw_885, tw_886, rfl⟩
theorem ml_X11_202 : az_mV "LetterNights" 202 mX10_get 1 9 := ⟨⟨tw_888, tw_12, kX10_get, ⟨by decide +kernel, by decide +kernel, by decide +kernel⟩, by decide⟩, tw_889, tw_890, rfl⟩
theorem ml_X11_208 : az_mV "LetterNights" 208 mX6_frontLetter 0 5 := ⟨⟨tw_893, tw_8, kX6_frontLetter, ⟨by decide +kernel, by decide +kernel, by decide +kernel⟩, by decide⟩, tw_719, tw_720, rfl⟩
theorem ml_L_80 : az_mV "LetterNightsLaw" 80 mX11_perform 1 10 := ⟨⟨tw_894, tw_1, kX11_perform, ⟨by decide +kernel, by decide +kernel, by decide +kernel⟩, by decide⟩, tw_895, tw_896, rfl⟩
theorem ml_X11_211 : az_mV "LetterNights" 211 mX11_refusalOfTray 1 10 := ⟨⟨tw_898, tw_1, kX11_refusalOfTray, ⟨by decide +kernel, by decide +kernel, by decide +kernel⟩, by decide⟩, tw_900, (az_memP 38 (by decide +kernel) (by decide +kernel)), rfl⟩
theorem ml_L_84 : az_mV "LetterNightsLaw" 84 mX11_year 2 10 := ⟨⟨tw_902, tw_1, kX11_year, ⟨by decide +kernel, by decide +kernel, by decide +kernel⟩, by decide⟩, tw_903, tw_904, rfl⟩
theorem ml_X11_215 : az_mS "LetterNights" 215 mX11_drawnFrom 1 := ⟨⟨tw_906, tw_1, kX11_drawnFrom, ⟨by decide +kernel, by decide +kernel, by decide +kernel⟩, by decide⟩, tw_907⟩
theorem ml_L_88 : az_mV "LetterNightsLaw" 88 mX11_occurs 1 10 := ⟨⟨tw_910, tw_1, kX11_occurs, ⟨by decide +kernel, by decide +kernel, by decide +kernel⟩, by decide⟩, tw_911, tw_912, rfl⟩
theorem ml_X11_219 : az_mV "LetterNights" 219 mX11_refusalOfWord 1 10 := ⟨⟨tw_914, tw_1, kX11_refusalOfWord, ⟨by decide +kernel, by decide +kernel, by decide +kernel⟩, by decide⟩, tw_916, (az_memP 39 (by decide +kernel) (by decide +kernel)), rfl⟩
theorem ml_X11_222 : az_mV "LetterNights" 222 mX0_learn 1 0 := ⟨⟨tw_918, tw_5, kX0_learn, ⟨by decide +kernel, by decide +kernel, by decide +kernel⟩, by decide⟩, tw_919, tw_920, rfl⟩
theorem ml_X0_35 : az_mS "LetterNights$Finder" 35 mJ9_min_7cf53 2 := ⟨⟨tw_922, tw_14, kJ9_min_7cf53, ⟨by decide +kernel, by decide +kernel, by decide +kernel⟩, by decide⟩, tw_425⟩
theorem ml_X0_42 : az_mV "LetterNights$Finder" 42 mX10_get 1 9 := ⟨⟨tw_923, tw_12, kX10_get, ⟨by decide +kernel, by decide +kernel, by decide +kernel⟩, by decide⟩, tw_889, tw_890, rfl⟩
theorem ml_X0_46 : az_mV "LetterNights$Finder" 46 mX0_behind 2 0 := ⟨⟨tw_924, tw_5, kX0_behind, ⟨by decide +kernel, by decide +kernel, by decide +kernel⟩, by decide⟩, tw_926, (az_memP 40 (by decide +kernel) (by decide +kernel)), rfl⟩
theorem ml_X11_226 : az_mV "LetterNights" 226 mX0_search 1 0 := ⟨⟨tw_928, tw_5, kX0_search, ⟨by decide +kernel, by decide +kernel, by decide +kernel⟩, by decide⟩, tw_929, tw_930, rfl⟩
theorem ml_X0_54 : az_mS "LetterNights$Finder" 54 mX0_cellOf 3 := ⟨⟨tw_932, tw_5, kX0_cellOf, ⟨by decide +kernel, by decide +kernel, by decide +kernel⟩, by decide⟩, tw_933⟩
theorem ml_X0_58 : az_mV "LetterNights$Finder" 58 mX0_searchLetter 3 0 := ⟨⟨tw_935, tw_5, kX0_searchLetter, ⟨by decide +kernel, by decide +kernel, by decide +kernel⟩, by decide⟩, tw_937, (az_memP 41 (by decide +kernel) (by decide +kernel)), rfl⟩
theorem ml_X0_69 : az_mV "LetterNights$Finder" 69 mX9_sizeOf 2 8 := ⟨⟨tw_939, tw_7, kX9_sizeOf, ⟨by decide +kernel, by decide +kernel, by decide +kernel⟩, by decide⟩, tw_694, tw_695, rfl⟩
theorem ml_X0_74 : az_mV "LetterNights$Finder" 74 mX9_childOf 3 8 := ⟨⟨tw_940, tw_7, kX9_childOf, ⟨by decide +kernel, by decide +kernel, by decide +kernel⟩, by decide⟩, tw_698, tw_699, rfl⟩
theorem ml_X0_79 : az_mS "LetterNights$Finder" 79 mJ9_min_f86c9 2 := ⟨⟨tw_942, tw_14, kJ9_min_f86c9, ⟨by decide +kernel, by decide +kernel, by decide +kernel⟩, by decide⟩, tw_736⟩
theorem ml_X11_229 : az_mV "LetterNights" 229 mX0_hitsInAll 1 0 := ⟨⟨tw_943, tw_5, kX0_hitsInAll, ⟨by decide +kernel, by decide +kernel, by decide +kernel⟩, by decide⟩, tw_944, tw_945, rfl⟩
theorem ml_L_92 : az_mV "LetterNightsLaw" 92 mX11_first 1 10 := ⟨⟨tw_947, tw_1, kX11_first, ⟨by decide +kernel, by decide +kernel, by decide +kernel⟩, by decide⟩, tw_948, tw_949, rfl⟩
theorem ml_X11_236 : az_mV "LetterNights" 236 mX0_firstPlace 2 0 := ⟨⟨tw_951, tw_5, kX0_firstPlace, ⟨by decide +kernel, by decide +kernel, by decide +kernel⟩, by decide⟩, tw_952, tw_953, rfl⟩
theorem ml_X0_95 : az_mV "LetterNights$Finder" 95 mX0_isHit 3 0 := ⟨⟨tw_955, tw_5, kX0_isHit, ⟨by decide +kernel, by decide +kernel, by decide +kernel⟩, by decide⟩, tw_957, (az_memP 42 (by decide +kernel) (by decide +kernel)), rfl⟩
theorem ml_X0_99 : az_mV "LetterNights$Finder" 99 mX0_childHit 4 0 := ⟨⟨tw_959, tw_5, kX0_childHit, ⟨by decide +kernel, by decide +kernel, by decide +kernel⟩, by decide⟩, tw_961, (az_memP 43 (by decide +kernel) (by decide +kernel)), rfl⟩
theorem ml_L_96 : az_mV "LetterNightsLaw" 96 mX11_backs 2 10 := ⟨⟨tw_964, tw_1, kX11_backs, ⟨by decide +kernel, by decide +kernel, by decide +kernel⟩, by decide⟩, tw_965, tw_966, rfl⟩
theorem ml_X11_240 : az_mV "LetterNights" 240 mX11_refusalOfReadingBack 2 10 := ⟨⟨tw_968, tw_1, kX11_refusalOfReadingBack, ⟨by decide +kernel, by decide +kernel, by decide +kernel⟩, by decide⟩, tw_970, (az_memP 44 (by decide +kernel) (by decide +kernel)), rfl⟩
theorem ml_X11_243 : az_mV "LetterNights" 243 mX0_readBack 3 0 := ⟨⟨tw_972, tw_5, kX0_readBack, ⟨by decide +kernel, by decide +kernel, by decide +kernel⟩, by decide⟩, tw_973, tw_974, rfl⟩
theorem ml_X0_105 : az_mS "LetterNights$Finder" 105 mX0_standsAt 5 := ⟨⟨tw_976, tw_5, kX0_standsAt, ⟨by decide +kernel, by decide +kernel, by decide +kernel⟩, by decide⟩, tw_977⟩
theorem ml_L_100 : az_mV "LetterNightsLaw" 100 mX11_backBy 3 10 := ⟨⟨tw_979, tw_1, kX11_backBy, ⟨by decide +kernel, by decide +kernel, by decide +kernel⟩, by decide⟩, tw_980, tw_981, rfl⟩
theorem ml_X11_251 : az_mV "LetterNights" 251 mX0_letterBack 4 0 := ⟨⟨tw_983, tw_5, kX0_letterBack, ⟨by decide +kernel, by decide +kernel, by decide +kernel⟩, by decide⟩, tw_984, tw_985, rfl⟩
theorem ml_L_104 : az_mV "LetterNightsLaw" 104 mX11_fate 2 10 := ⟨⟨tw_987, tw_1, kX11_fate, ⟨by decide +kernel, by decide +kernel, by decide +kernel⟩, by decide⟩, tw_988, tw_989, rfl⟩
theorem ml_X11_255 : az_mV "LetterNights" 255 mX2_learn 2 2 := ⟨⟨tw_991, tw_6, kX2_learn, ⟨by decide +kernel, by decide +kernel, by decide +kernel⟩, by decide⟩, tw_992, tw_993, rfl⟩
theorem ml_X2_18 : az_mV "LetterNights$Kin" 18 mX9_childBits 2 8 := ⟨⟨tw_995, tw_7, kX9_childBits, ⟨by decide +kernel, by decide +kernel, by decide +kernel⟩, by decide⟩, tw_996, tw_997, rfl⟩
theorem ml_X9_40 : az_mV "LetterNights$Town" 40 mX9_sizeOf 2 8 := ⟨⟨tw_999, tw_7, kX9_sizeOf, ⟨by decide +kernel, by decide +kernel, by decide +kernel⟩, by decide⟩, tw_694, tw_695, rfl⟩
theorem ml_X9_44 : az_mV "LetterNights$Town" 44 mX9_childOf 3 8 := ⟨⟨tw_1000, tw_7, kX9_childOf, ⟨by decide +kernel, by decide +kernel, by decide +kernel⟩, by decide⟩, tw_698, tw_699, rfl⟩
theorem ml_X2_24 : az_mV "LetterNights$Kin" 24 mX2_reaches 2 2 := ⟨⟨tw_1001, tw_6, kX2_reaches, ⟨by decide +kernel, by decide +kernel, by decide +kernel⟩, by decide⟩, tw_1003, (az_memP 45 (by decide +kernel) (by decide +kernel)), rfl⟩
theorem ml_X2_28 : az_mV "LetterNights$Kin" 28 mX2_learnChains 0 2 := ⟨⟨tw_1005, tw_6, kX2_learnChains, ⟨by decide +kernel, by decide +kernel, by decide +kernel⟩, by decide⟩, tw_1007, (az_memP 46 (by decide +kernel) (by decide +kernel)), rfl⟩
theorem ml_X2_31 : az_mS "LetterNights$Kin" 31 mJ7_fill_53178 2 := ⟨⟨tw_1009, tw_9, kJ7_fill_53178, ⟨by decide +kernel, by decide +kernel, by decide +kernel⟩, by decide⟩, tw_1010⟩
theorem ml_X2_37 : az_mV "LetterNights$Kin" 37 mX2_longestBehind 1 2 := ⟨⟨tw_1012, tw_6, kX2_longestBehind, ⟨by decide +kernel, by decide +kernel, by decide +kernel⟩, by decide⟩, tw_1014, (az_memP 47 (by decide +kernel) (by decide +kernel)), rfl⟩
theorem ml_X2_41 : az_mS "LetterNights$Kin" 41 mJ9_max_7cf53 2 := ⟨⟨tw_1016, tw_14, kJ9_max_7cf53, ⟨by decide +kernel, by decide +kernel, by decide +kernel⟩, by decide⟩, tw_469⟩
theorem ml_X11_258 : az_mV "LetterNights" 258 mX2_fateOf 3 2 := ⟨⟨tw_1017, tw_6, kX2_fateOf, ⟨by decide +kernel, by decide +kernel, by decide +kernel⟩, by decide⟩, tw_1018, tw_1019, rfl⟩
theorem ml_X2_46 : az_mV "LetterNights$Kin" 46 mX2_chainFrom 1 2 := ⟨⟨tw_1021, tw_6, kX2_chainFrom, ⟨by decide +kernel, by decide +kernel, by decide +kernel⟩, by decide⟩, tw_1022, tw_1023, rfl⟩
theorem ml_X2_49 : az_mV "LetterNights$Kin" 49 mX2_doubles 3 2 := ⟨⟨tw_1025, tw_6, kX2_doubles, ⟨by decide +kernel, by decide +kernel, by decide +kernel⟩, by decide⟩, tw_1027, (az_memP 48 (by decide +kernel) (by decide +kernel)), rfl⟩
theorem ml_X2_53 : az_mV "LetterNights$Kin" 53 mX9_sizeOf 2 8 := ⟨⟨tw_1029, tw_7, kX9_sizeOf, ⟨by decide +kernel, by decide +kernel, by decide +kernel⟩, by decide⟩, tw_694, tw_695, rfl⟩
theorem ml_X2_56 : az_mV "LetterNights$Kin" 56 mX9_childOf 3 8 := ⟨⟨tw_1030, tw_7, kX9_childOf, ⟨by decide +kernel, by decide +kernel, by decide +kernel⟩, by decide⟩, tw_698, tw_699, rfl⟩
theorem ml_L_108 : az_mV "LetterNightsLaw" 108 mX11_degree 2 10 := ⟨⟨tw_1031, tw_1, kX11_degree, ⟨by decide +kernel, by decide +kernel, by decide +kernel⟩, by decide⟩, tw_1032, tw_1033, rfl⟩
theorem ml_X11_262 : az_mV "LetterNights" 262 mX2_chainFrom 1 2 := ⟨⟨tw_1035, tw_6, kX2_chainFrom, ⟨by decide +kernel, by decide +kernel, by decide +kernel⟩, by decide⟩, tw_1022, tw_1023, rfl⟩
theorem ml_L_112 : az_mV "LetterNightsLaw" 112 mX11_begins 1 10 := ⟨⟨tw_1036, tw_1, kX11_begins, ⟨by decide +kernel, by decide +kernel, by decide +kernel⟩, by decide⟩, tw_1037, tw_1038, rfl⟩
theorem ml_L_116 : az_mV "LetterNightsLaw" 116 mX11_comes 1 10 := ⟨⟨tw_1040, tw_1, kX11_comes, ⟨by decide +kernel, by decide +kernel, by decide +kernel⟩, by decide⟩, tw_1041, tw_1042, rfl⟩
theorem ml_X11_265 : az_mV "LetterNights" 265 mX6_standingBits 0 5 := ⟨⟨tw_1044, tw_8, kX6_standingBits, ⟨by decide +kernel, by decide +kernel, by decide +kernel⟩, by decide⟩, tw_1045, tw_1046, rfl⟩
theorem ml_X11_271 : az_mV "LetterNights" 271 mX9_childBitsOfAll 2 8 := ⟨⟨tw_1048, tw_7, kX9_childBitsOfAll, ⟨by decide +kernel, by decide +kernel, by decide +kernel⟩, by decide⟩, tw_1049, tw_1050, rfl⟩
theorem ml_X9_48 : az_mV "LetterNights$Town" 48 mX9_childBits 2 8 := ⟨⟨tw_1052, tw_7, kX9_childBits, ⟨by decide +kernel, by decide +kernel, by decide +kernel⟩, by decide⟩, tw_996, tw_997, rfl⟩
theorem ml_L_120 : az_mV "LetterNightsLaw" 120 mX11_soonest 1 10 := ⟨⟨tw_1053, tw_1, kX11_soonest, ⟨by decide +kernel, by decide +kernel, by decide +kernel⟩, by decide⟩, tw_1054, tw_1055, rfl⟩
theorem ml_X11_274 : az_mV "LetterNights" 274 mX1_soonestRow 2 1 := ⟨⟨tw_1057, tw_10, kX1_soonestRow, ⟨by decide +kernel, by decide +kernel, by decide +kernel⟩, by decide⟩, tw_1058, tw_1059, rfl⟩
theorem ml_X1_71 : az_mV "LetterNights$Futures" 71 mX1_begin 1 1 := ⟨⟨tw_1061, tw_10, kX1_begin, ⟨by decide +kernel, by decide +kernel, by decide +kernel⟩, by decide⟩, tw_1063, (az_memP 49 (by decide +kernel) (by decide +kernel)), rfl⟩
theorem ml_X1_75 : az_mV "LetterNights$Futures" 75 mX1_findRow 3 1 := ⟨⟨tw_1066, tw_10, kX1_findRow, ⟨by decide +kernel, by decide +kernel, by decide +kernel⟩, by decide⟩, tw_1068, (az_memP 50 (by decide +kernel) (by decide +kernel)), rfl⟩
theorem ml_X1_79 : az_mV "LetterNights$Futures" 79 mX1_spanAt 1 1 := ⟨⟨tw_1070, tw_10, kX1_spanAt, ⟨by decide +kernel, by decide +kernel, by decide +kernel⟩, by decide⟩, tw_1072, (az_memP 51 (by decide +kernel) (by decide +kernel)), rfl⟩
theorem ml_X1_87 : az_mV "LetterNights$Futures" 87 mX1_spanBy 2 1 := ⟨⟨tw_1074, tw_10, kX1_spanBy, ⟨by decide +kernel, by decide +kernel, by decide +kernel⟩, by decide⟩, tw_1076, (az_memP 52 (by decide +kernel) (by decide +kernel)), rfl⟩
theorem ml_X1_91 : az_mV "LetterNights$Futures" 91 mX1_passNight 2 1 := ⟨⟨tw_1078, tw_10, kX1_passNight, ⟨by decide +kernel, by decide +kernel, by decide +kernel⟩, by decide⟩, tw_1080, (az_memP 53 (by decide +kernel) (by decide +kernel)), rfl⟩
theorem ml_X1_63 : az_mV "LetterNights$Futures" 63 mX1_clear 1 1 := ⟨⟨tw_1082, tw_10, kX1_clear, ⟨by decide +kernel, by decide +kernel, by decide +kernel⟩, by decide⟩, tw_1084, (az_memP 54 (by decide +kernel) (by decide +kernel)), rfl⟩
theorem ml_X1_54 : az_mS "LetterNights$Futures" 54 mJ7_fill_bad5a 4 := ⟨⟨tw_1086, tw_9, kJ7_fill_bad5a, ⟨by decide +kernel, by decide +kernel, by decide +kernel⟩, by decide⟩, tw_1087⟩
theorem ml_J7_13 : az_mS "java/util/Arrays" 13 mJ7_rangeCheck_23922 3 := ⟨⟨tw_1089, tw_9, kJ7_rangeCheck_23922, ⟨by decide +kernel, by decide +kernel, by decide +kernel⟩, by decide⟩, tw_1090⟩
theorem ml_X1_67 : az_mV "LetterNights$Futures" 67 mX1_addNight 2 1 := ⟨⟨tw_1092, tw_10, kX1_addNight, ⟨by decide +kernel, by decide +kernel, by decide +kernel⟩, by decide⟩, tw_1094, (az_memP 55 (by decide +kernel) (by decide +kernel)), rfl⟩
theorem ml_L_124 : az_mV "LetterNightsLaw" 124 mX11_way 2 10 := ⟨⟨tw_1096, tw_1, kX11_way, ⟨by decide +kernel, by decide +kernel, by decide +kernel⟩, by decide⟩, tw_1097, tw_1098, rfl⟩
theorem ml_X11_277 : az_mV "LetterNights" 277 mX1_tableInRow 1 1 := ⟨⟨tw_1100, tw_10, kX1_tableInRow, ⟨by decide +kernel, by decide +kernel, by decide +kernel⟩, by decide⟩, tw_1101, tw_1102, rfl⟩
theorem ml_L_129 : az_mV "LetterNightsLaw" 129 mX11_rows 2 10 := ⟨⟨tw_1104, tw_1, kX11_rows, ⟨by decide +kernel, by decide +kernel, by decide +kernel⟩, by decide⟩, tw_1105, tw_1106, rfl⟩
theorem ml_X11_280 : az_mV "LetterNights" 280 mX1_rowsOf 3 1 := ⟨⟨tw_1108, tw_10, kX1_rowsOf, ⟨by decide +kernel, by decide +kernel, by decide +kernel⟩, by decide⟩, tw_1109, tw_1110, rfl⟩
theorem ml_X1_94 : az_mV "LetterNights$Futures" 94 mX1_rowsFrom 3 1 := ⟨⟨tw_1112, tw_10, kX1_rowsFrom, ⟨by decide +kernel, by decide +kernel, by decide +kernel⟩, by decide⟩, tw_1114, (az_memP 56 (by decide +kernel) (by decide +kernel)), rfl⟩
theorem ml_L_133 : az_mV "LetterNightsLaw" 133 mX11_longBy 1 10 := ⟨⟨tw_1116, tw_1, kX11_longBy, ⟨by decide +kernel, by decide +kernel, by decide +kernel⟩, by decide⟩, tw_1117, tw_1118, rfl⟩
theorem ml_X11_284 : az_mV "LetterNights" 284 mX11_refusalOfLengths 2 10 := ⟨⟨tw_1120, tw_1, kX11_refusalOfLengths, ⟨by decide +kernel, by decide +kernel, by decide +kernel⟩, by decide⟩, tw_1122, (az_memP 57 (by decide +kernel) (by decide +kernel)), rfl⟩
theorem ml_X11_288 : az_mV "LetterNights" 288 mX1_rowsOfLong 2 1 := ⟨⟨tw_1124, tw_10, kX1_rowsOfLong, ⟨by decide +kernel, by decide +kernel, by decide +kernel⟩, by decide⟩, tw_1125, tw_1126, rfl⟩
theorem ml_X1_102 : az_mS "LetterNights$Futures" 102 mJ7_fill_53178 2 := ⟨⟨tw_1128, tw_9, kJ7_fill_53178, ⟨by decide +kernel, by decide +kernel, by decide +kernel⟩, by decide⟩, tw_1010⟩
theorem ml_X1_105 : az_mV "LetterNights$Futures" 105 mX1_longFrom 2 1 := ⟨⟨tw_1129, tw_10, kX1_longFrom, ⟨by decide +kernel, by decide +kernel, by decide +kernel⟩, by decide⟩, tw_1131, (az_memP 58 (by decide +kernel) (by decide +kernel)), rfl⟩
theorem ml_X1_114 : az_mV "LetterNights$Futures" 114 mX10_get 1 9 := ⟨⟨tw_1133, tw_12, kX10_get, ⟨by decide +kernel, by decide +kernel, by decide +kernel⟩, by decide⟩, tw_889, tw_890, rfl⟩
theorem ml_X1_119 : az_mV "LetterNights$Futures" 119 mX1_tallyNext 1 1 := ⟨⟨tw_1135, tw_10, kX1_tallyNext, ⟨by decide +kernel, by decide +kernel, by decide +kernel⟩, by decide⟩, tw_1137, (az_memP 59 (by decide +kernel) (by decide +kernel)), rfl⟩
theorem ml_X1_122 : az_mV "LetterNights$Futures" 122 mX8_add 2 7 := ⟨⟨tw_1139, tw_11, kX8_add, ⟨by decide +kernel, by decide +kernel, by decide +kernel⟩, by decide⟩, tw_1140, tw_1141, rfl⟩
theorem ml_X8_37 : az_mV "LetterNights$Tally" 37 mX8_slotOf 1 7 := ⟨⟨tw_1144, tw_11, kX8_slotOf, ⟨by decide +kernel, by decide +kernel, by decide +kernel⟩, by decide⟩, tw_1146, (az_memP 60 (by decide +kernel) (by decide +kernel)), rfl⟩
theorem ml_X8_41 : az_mS "LetterNights$Tally" 41 mJ9_max_7cf53 2 := ⟨⟨tw_1149, tw_14, kJ9_max_7cf53, ⟨by decide +kernel, by decide +kernel, by decide +kernel⟩, by decide⟩, tw_469⟩
theorem ml_L_137 : az_mV "LetterNightsLaw" 137 mX11_tables 2 10 := ⟨⟨tw_1150, tw_1, kX11_tables, ⟨by decide +kernel, by decide +kernel, by decide +kernel⟩, by decide⟩, tw_1151, tw_1152, rfl⟩
theorem ml_X11_292 : az_mV "LetterNights" 292 mX1_tablesSeen 1 1 := ⟨⟨tw_1154, tw_10, kX1_tablesSeen, ⟨by decide +kernel, by decide +kernel, by decide +kernel⟩, by decide⟩, tw_1155, tw_1156, rfl⟩
theorem ml_L_141 : az_mV "LetterNightsLaw" 141 mX11_moons 1 10 := ⟨⟨tw_1158, tw_1, kX11_moons, ⟨by decide +kernel, by decide +kernel, by decide +kernel⟩, by decide⟩, tw_1159, tw_1160, rfl⟩
theorem ml_X11_295 : az_mV "LetterNights" 295 mX11_isOfItself 1 10 := ⟨⟨tw_1162, tw_1, kX11_isOfItself, ⟨by decide +kernel, by decide +kernel, by decide +kernel⟩, by decide⟩, tw_1164, (az_memP 61 (by decide +kernel) (by decide +kernel)), rfl⟩
theorem ml_L_145 : az_mV "LetterNightsLaw" 145 mX11_attempt 1 10 := ⟨⟨tw_1166, tw_1, kX11_attempt, ⟨by decide +kernel, by decide +kernel, by decide +kernel⟩, by decide⟩, tw_1167, tw_1168, rfl⟩
theorem ml_X11_299 : az_mV "LetterNights" 299 mX1_tableToTry 2 1 := ⟨⟨tw_1170, tw_10, kX1_tableToTry, ⟨by decide +kernel, by decide +kernel, by decide +kernel⟩, by decide⟩, tw_1171, tw_1172, rfl⟩
theorem ml_X1_126 : az_mV "LetterNights$Futures" 126 mX1_rowsOfLong 2 1 := ⟨⟨tw_1174, tw_10, kX1_rowsOfLong, ⟨by decide +kernel, by decide +kernel, by decide +kernel⟩, by decide⟩, tw_1125, tw_1126, rfl⟩
theorem ml_X1_130 : az_mV "LetterNights$Futures" 130 mX8_clear 1 7 := ⟨⟨tw_1175, tw_11, kX8_clear, ⟨by decide +kernel, by decide +kernel, by decide +kernel⟩, by decide⟩, tw_1176, tw_1177, rfl⟩
theorem ml_X8_26 : az_mS "LetterNights$Tally" 26 mJ7_fill_fda19 4 := ⟨⟨tw_1179, tw_9, kJ7_fill_fda19, ⟨by decide +kernel, by decide +kernel, by decide +kernel⟩, by decide⟩, tw_1180⟩
theorem ml_X8_32 : az_mS "LetterNights$Tally" 32 mJ7_fill_53178 2 := ⟨⟨tw_1182, tw_9, kJ7_fill_53178, ⟨by decide +kernel, by decide +kernel, by decide +kernel⟩, by decide⟩, tw_1010⟩
theorem ml_X1_131 : az_mV "LetterNights$Futures" 131 mX8_greatest 1 7 := ⟨⟨tw_1183, tw_11, kX8_greatest, ⟨by decide +kernel, by decide +kernel, by decide +kernel⟩, by decide⟩, tw_1184, tw_1185, rfl⟩
theorem ml_L_149 : az_mV "LetterNightsLaw" 149 mX11_turned 1 10 := ⟨⟨tw_1187, tw_1, kX11_turned, ⟨by decide +kernel, by decide +kernel, by decide +kernel⟩, by decide⟩, tw_1188, tw_1189, rfl⟩
theorem ml_X11_302 : az_mV "LetterNights" 302 mX1_spanOfTurns 2 1 := ⟨⟨tw_1191, tw_10, kX1_spanOfTurns, ⟨by decide +kernel, by decide +kernel, by decide +kernel⟩, by decide⟩, tw_1192, tw_1193, rfl⟩
theorem ml_X1_135 : az_mV "LetterNights$Futures" 135 mX1_spanByTurns 2 1 := ⟨⟨tw_1195, tw_10, kX1_spanByTurns, ⟨by decide +kernel, by decide +kernel, by decide +kernel⟩, by decide⟩, tw_1197, (az_memP 62 (by decide +kernel) (by decide +kernel)), rfl⟩
theorem ml_L_153 : az_mV "LetterNightsLaw" 153 mX11_best 1 10 := ⟨⟨tw_1199, tw_1, kX11_best, ⟨by decide +kernel, by decide +kernel, by decide +kernel⟩, by decide⟩, tw_1200, tw_1201, rfl⟩
theorem ml_L_157 : az_mV "LetterNightsLaw" 157 mX11_chance 2 10 := ⟨⟨tw_1203, tw_1, kX11_chance, ⟨by decide +kernel, by decide +kernel, by decide +kernel⟩, by decide⟩, tw_1204, tw_1205, rfl⟩
theorem ml_X11_306 : az_mV "LetterNights" 306 mX1_rowsOfNothing 2 1 := ⟨⟨tw_1207, tw_10, kX1_rowsOfNothing, ⟨by decide +kernel, by decide +kernel, by decide +kernel⟩, by decide⟩, tw_1208, tw_1209, rfl⟩
theorem ml_X1_138 : az_mV "LetterNights$Futures" 138 mX6_standingBits 0 5 := ⟨⟨tw_1211, tw_8, kX6_standingBits, ⟨by decide +kernel, by decide +kernel, by decide +kernel⟩, by decide⟩, tw_1045, tw_1046, rfl⟩
theorem ml_X1_142 : az_mV "LetterNights$Futures" 142 mX1_spreadWays 2 1 := ⟨⟨tw_1212, tw_10, kX1_spreadWays, ⟨by decide +kernel, by decide +kernel, by decide +kernel⟩, by decide⟩, tw_1214, (az_memP 63 (by decide +kernel) (by decide +kernel)), rfl⟩
theorem ml_X1_146 : az_mV "LetterNights$Futures" 146 mX9_childBitsOfAll 2 8 := ⟨⟨tw_1216, tw_7, kX9_childBitsOfAll, ⟨by decide +kernel, by decide +kernel, by decide +kernel⟩, by decide⟩, tw_1049, tw_1050, rfl⟩
theorem ml_X11_309 : az_mV "LetterNights" 309 mX1_rowsInAll 2 1 := ⟨⟨tw_1217, tw_10, kX1_rowsInAll, ⟨by decide +kernel, by decide +kernel, by decide +kernel⟩, by decide⟩, tw_1218, tw_1219, rfl⟩
theorem ml_X11_312 : az_mS "LetterNights" 312 mX11_lowestTerm 3 := ⟨⟨tw_1221, tw_1, kX11_lowestTerm, ⟨by decide +kernel, by decide +kernel, by decide +kernel⟩, by decide⟩, tw_1222⟩
theorem ml_L_161 : az_mV "LetterNightsLaw" 161 mX11_mean 2 10 := ⟨⟨tw_1224, tw_1, kX11_mean, ⟨by decide +kernel, by decide +kernel, by decide +kernel⟩, by decide⟩, tw_1225, tw_1226, rfl⟩
theorem ml_X11_316 : az_mV "LetterNights" 316 mX1_spanOfAllRows 2 1 := ⟨⟨tw_1228, tw_10, kX1_spanOfAllRows, ⟨by decide +kernel, by decide +kernel, by decide +kernel⟩, by decide⟩, tw_1229, tw_1230, rfl⟩
theorem ml_X1_150 : az_mS "LetterNights$Futures" 150 mJ9_min_7cf53 2 := ⟨⟨tw_1232, tw_14, kJ9_min_7cf53, ⟨by decide +kernel, by decide +kernel, by decide +kernel⟩, by decide⟩, tw_425⟩
theorem ml_L_166 : az_mV "LetterNightsLaw" 166 mX11_numbers 3 10 := ⟨⟨tw_1233, tw_1, kX11_numbers, ⟨by decide +kernel, by decide +kernel, by decide +kernel⟩, by decide⟩, tw_1234, tw_1235, rfl⟩
theorem ml_X11_319 : az_mV "LetterNights" 319 mX10_lay 2 9 := ⟨⟨tw_1237, tw_12, kX10_lay, ⟨by decide +kernel, by decide +kernel, by decide +kernel⟩, by decide⟩, tw_1238, tw_1239, rfl⟩
theorem ml_X10_22 : az_mS "LetterNights$Tray" 22 mJ9_min_7cf53 2 := ⟨⟨tw_1241, tw_14, kJ9_min_7cf53, ⟨by decide +kernel, by decide +kernel, by decide +kernel⟩, by decide⟩, tw_425⟩
theorem ml_X10_28 : az_mS "LetterNights$Tray" 28 mJ9_max_7cf53 2 := ⟨⟨tw_1242, tw_14, kJ9_max_7cf53, ⟨by decide +kernel, by decide +kernel, by decide +kernel⟩, by decide⟩, tw_469⟩
theorem ml_X10_31 : az_mS "LetterNights$Tray" 31 mJ7_fill_d0a16 2 := ⟨⟨tw_1243, tw_9, kJ7_fill_d0a16, ⟨by decide +kernel, by decide +kernel, by decide +kernel⟩, by decide⟩, tw_236⟩
theorem ml_L_170 : az_mV "LetterNightsLaw" 170 mX11_write 3 10 := ⟨⟨tw_1244, tw_1, kX11_write, ⟨by decide +kernel, by decide +kernel, by decide +kernel⟩, by decide⟩, tw_1245, tw_1246, rfl⟩
theorem ml_X11_325 : az_mV "LetterNights" 325 mX10_put 2 9 := ⟨⟨tw_1249, tw_12, kX10_put, ⟨by decide +kernel, by decide +kernel, by decide +kernel⟩, by decide⟩, tw_1250, tw_1251, rfl⟩
theorem ml_X10_37 : az_mV "LetterNights$Tray" 37 mX10_cut 1 9 := ⟨⟨tw_1253, tw_12, kX10_cut, ⟨by decide +kernel, by decide +kernel, by decide +kernel⟩, by decide⟩, tw_1255, (az_memP 64 (by decide +kernel) (by decide +kernel)), rfl⟩
theorem ml_L_175 : az_mV "LetterNightsLaw" 175 mX11_lists 2 10 := ⟨⟨tw_1257, tw_1, kX11_lists, ⟨by decide +kernel, by decide +kernel, by decide +kernel⟩, by decide⟩, tw_1258, tw_1259, rfl⟩
theorem ml_X11_329 : az_mS "LetterNights" 329 mJ9_min_f86c9 2 := ⟨⟨tw_1261, tw_14, kJ9_min_f86c9, ⟨by decide +kernel, by decide +kernel, by decide +kernel⟩, by decide⟩, tw_736⟩
theorem ml_L_180 : az_mV "LetterNightsLaw" 180 mX11_image 1 10 := ⟨⟨tw_1262, tw_1, kX11_image, ⟨by decide +kernel, by decide +kernel, by decide +kernel⟩, by decide⟩, tw_1263, tw_1264, rfl⟩
theorem ml_L_184 : az_mV "LetterNightsLaw" 184 mX11_restore 1 10 := ⟨⟨tw_1266, tw_1, kX11_restore, ⟨by decide +kernel, by decide +kernel, by decide +kernel⟩, by decide⟩, tw_1267, tw_1268, rfl⟩
theorem ml_L_188 : az_mV "LetterNightsLaw" 188 mX11_told 1 10 := ⟨⟨tw_1270, tw_1, kX11_told, ⟨by decide +kernel, by decide +kernel, by decide +kernel⟩, by decide⟩, tw_1271, tw_1272, rfl⟩
theorem ml_X11_341 : az_mV "LetterNights" 341 mX6_backLetter 0 5 := ⟨⟨tw_1274, tw_8, kX6_backLetter, ⟨by decide +kernel, by decide +kernel, by decide +kernel⟩, by decide⟩, tw_723, tw_724, rfl⟩
theorem ml_L_12 : az_mI "LetterNightsLaw" 12 mX12_init 0 := ⟨⟨tw_1277, tw_13, kX12_init, ⟨by decide +kernel, by decide +kernel, by decide +kernel⟩, by decide⟩, tw_1278, rfl⟩
theorem ml_X12_103 : az_mS "LetterNightsModel" 103 mX12_plain 1 := ⟨⟨tw_1281, tw_13, kX12_plain, ⟨by decide +kernel, by decide +kernel, by decide +kernel⟩, by decide⟩, tw_1282⟩
theorem ml_L_17 : az_mV "LetterNightsLaw" 17 mX12_feed 5 11 := ⟨⟨tw_1421, tw_13, kX12_feed, ⟨by decide +kernel, by decide +kernel, by decide +kernel⟩, by decide⟩, tw_1422, tw_1423, rfl⟩
theorem ml_L_22 : az_mV "LetterNightsLaw" 22 mX12_street 1 11 := ⟨⟨tw_1425, tw_13, kX12_street, ⟨by decide +kernel, by decide +kernel, by decide +kernel⟩, by decide⟩, tw_1426, tw_1427, rfl⟩
theorem ml_X12_169 : az_mS "LetterNightsModel" 169 mX12_within 3 := ⟨⟨tw_1429, tw_13, kX12_within, ⟨by decide +kernel, by decide +kernel, by decide +kernel⟩, by decide⟩, tw_1430⟩
theorem ml_X12_162 : az_mV "LetterNightsModel" 162 mX12_next 0 11 := ⟨⟨tw_1432, tw_13, kX12_next, ⟨by decide +kernel, by decide +kernel, by decide +kernel⟩, by decide⟩, tw_1434, (az_memP 65 (by decide +kernel) (by decide +kernel)), rfl⟩
theorem ml_X12_131 : az_mV "LetterNightsModel" 131 mX12_see 1 11 := ⟨⟨tw_1436, tw_13, kX12_see, ⟨by decide +kernel, by decide +kernel, by decide +kernel⟩, by decide⟩, tw_1438, (az_memP 66 (by decide +kernel) (by decide +kernel)), rfl⟩
theorem ml_X12_138 : az_mS "LetterNightsModel" 138 mX12_isSmall 1 := ⟨⟨tw_1440, tw_13, kX12_isSmall, ⟨by decide +kernel, by decide +kernel, by decide +kernel⟩, by decide⟩, tw_1441⟩
theorem ml_X12_142 : az_mV "LetterNightsModel" 142 mX12_keyAt 0 11 := ⟨⟨tw_1443, tw_13, kX12_keyAt, ⟨by decide +kernel, by decide +kernel, by decide +kernel⟩, by decide⟩, tw_1445, (az_memP 67 (by decide +kernel) (by decide +kernel)), rfl⟩
theorem ml_X12_145 : az_mS "LetterNightsModel" 145 mX12_isDigit 1 := ⟨⟨tw_1450, tw_13, kX12_isDigit, ⟨by decide +kernel, by decide +kernel, by decide +kernel⟩, by decide⟩, tw_1451⟩
theorem ml_X12_185 : az_mV "LetterNightsModel" 185 mX12_eats 1 11 := ⟨⟨tw_1454, tw_13, kX12_eats, ⟨by decide +kernel, by decide +kernel, by decide +kernel⟩, by decide⟩, tw_1456, (az_memP 68 (by decide +kernel) (by decide +kernel)), rfl⟩
theorem ml_X12_159 : az_mV "LetterNightsModel" 159 mX12_is 1 11 := ⟨⟨tw_1458, tw_13, kX12_is, ⟨by decide +kernel, by decide +kernel, by decide +kernel⟩, by decide⟩, tw_1460, (az_memP 69 (by decide +kernel) (by decide +kernel)), rfl⟩
theorem ml_X12_165 : az_mV "LetterNightsModel" 165 mX12_fails 1 11 := ⟨⟨tw_1462, tw_13, kX12_fails, ⟨by decide +kernel, by decide +kernel, by decide +kernel⟩, by decide⟩, tw_1464, (az_memP 70 (by decide +kernel) (by decide +kernel)), rfl⟩
theorem ml_X12_222 : az_mV "LetterNightsModel" 222 mX12_named 3 11 := ⟨⟨tw_1466, tw_13, kX12_named, ⟨by decide +kernel, by decide +kernel, by decide +kernel⟩, by decide⟩, tw_1468, (az_memP 71 (by decide +kernel) (by decide +kernel)), rfl⟩
theorem ml_X12_206 : az_mV "LetterNightsModel" 206 mX12_takes 2 11 := ⟨⟨tw_1470, tw_13, kX12_takes, ⟨by decide +kernel, by decide +kernel, by decide +kernel⟩, by decide⟩, tw_1472, (az_memP 72 (by decide +kernel) (by decide +kernel)), rfl⟩
theorem ml_X12_226 : az_mV "LetterNightsModel" 226 mX12_closes 0 11 := ⟨⟨tw_1474, tw_13, kX12_closes, ⟨by decide +kernel, by decide +kernel, by decide +kernel⟩, by decide⟩, tw_1476, (az_memP 73 (by decide +kernel) (by decide +kernel)), rfl⟩
theorem ml_X12_229 : az_mV "LetterNightsModel" 229 mX12_readLine 0 11 := ⟨⟨tw_1478, tw_13, kX12_readLine, ⟨by decide +kernel, by decide +kernel, by decide +kernel⟩, by decide⟩, tw_1480, (az_memP 74 (by decide +kernel) (by decide +kernel)), rfl⟩
theorem ml_X12_213 : az_mV "LetterNightsModel" 213 mX12_readStands 0 11 := ⟨⟨tw_1482, tw_13, kX12_readStands, ⟨by decide +kernel, by decide +kernel, by decide +kernel⟩, by decide⟩, tw_1484, (az_memP 75 (by decide +kernel) (by decide +kernel)), rfl⟩
theorem ml_X12_210 : az_mV "LetterNightsModel" 210 mX12_spells 1 11 := ⟨⟨tw_1486, tw_13, kX12_spells, ⟨by decide +kernel, by decide +kernel, by decide +kernel⟩, by decide⟩, tw_1488, (az_memP 76 (by decide +kernel) (by decide +kernel)), rfl⟩
theorem ml_X12_216 : az_mV "LetterNightsModel" 216 mX12_readRule 0 11 := ⟨⟨tw_1490, tw_13, kX12_readRule, ⟨by decide +kernel, by decide +kernel, by decide +kernel⟩, by decide⟩, tw_1492, (az_memP 77 (by decide +kernel) (by decide +kernel)), rfl⟩
theorem ml_X12_219 : az_mV "LetterNightsModel" 219 mX12_readLaw 1 11 := ⟨⟨tw_1494, tw_13, kX12_readLaw, ⟨by decide +kernel, by decide +kernel, by decide +kernel⟩, by decide⟩, tw_1496, (az_memP 78 (by decide +kernel) (by decide +kernel)), rfl⟩
theorem ml_X12_182 : az_mV "LetterNightsModel" 182 mX12_readSum 1 11 := ⟨⟨tw_1498, tw_13, kX12_readSum, ⟨by decide +kernel, by decide +kernel, by decide +kernel⟩, by decide⟩, tw_1500, (az_memP 79 (by decide +kernel) (by decide +kernel)), rfl⟩
theorem ml_X12_197 : az_mV "LetterNightsModel" 197 mX12_readTerm 1 11 := ⟨⟨tw_1502, tw_13, kX12_readTerm, ⟨by decide +kernel, by decide +kernel, by decide +kernel⟩, by decide⟩, tw_1504, (az_memP 80 (by decide +kernel) (by decide +kernel)), rfl⟩
theorem ml_X12_194 : az_mV "LetterNightsModel" 194 mX12_readAtom 1 11 := ⟨⟨tw_1506, tw_13, kX12_readAtom, ⟨by decide +kernel, by decide +kernel, by decide +kernel⟩, by decide⟩, tw_1508, (az_memP 81 (by decide +kernel) (by decide +kernel)), rfl⟩
theorem ml_X12_173 : az_mV "LetterNightsModel" 173 mX12_codes 1 11 := ⟨⟨tw_1510, tw_13, kX12_codes, ⟨by decide +kernel, by decide +kernel, by decide +kernel⟩, by decide⟩, tw_1512, (az_memP 82 (by decide +kernel) (by decide +kernel)), rfl⟩
theorem ml_X12_176 : az_mV "LetterNightsModel" 176 mX12_wordOf 1 11 := ⟨⟨tw_1514, tw_13, kX12_wordOf, ⟨by decide +kernel, by decide +kernel, by decide +kernel⟩, by decide⟩, tw_1516, (az_memP 83 (by decide +kernel) (by decide +kernel)), rfl⟩
theorem ml_X12_179 : az_mV "LetterNightsModel" 179 mX12_goesIn 1 11 := ⟨⟨tw_1518, tw_13, kX12_goesIn, ⟨by decide +kernel, by decide +kernel, by decide +kernel⟩, by decide⟩, tw_1520, (az_memP 84 (by decide +kernel) (by decide +kernel)), rfl⟩
theorem ml_X12_188 : az_mV "LetterNightsModel" 188 mX12_readIf 1 11 := ⟨⟨tw_1522, tw_13, kX12_readIf, ⟨by decide +kernel, by decide +kernel, by decide +kernel⟩, by decide⟩, tw_1524, (az_memP 85 (by decide +kernel) (by decide +kernel)), rfl⟩
theorem ml_X12_191 : az_mV "LetterNightsModel" 191 mX12_readTruth 1 11 := ⟨⟨tw_1526, tw_13, kX12_readTruth, ⟨by decide +kernel, by decide +kernel, by decide +kernel⟩, by decide⟩, tw_1528, (az_memP 86 (by decide +kernel) (by decide +kernel)), rfl⟩
theorem ml_X12_203 : az_mV "LetterNightsModel" 203 mX12_readBoth 1 11 := ⟨⟨tw_1530, tw_13, kX12_readBoth, ⟨by decide +kernel, by decide +kernel, by decide +kernel⟩, by decide⟩, tw_1532, (az_memP 87 (by decide +kernel) (by decide +kernel)), rfl⟩
theorem ml_X12_200 : az_mV "LetterNightsModel" 200 mX12_readUnit 1 11 := ⟨⟨tw_1534, tw_13, kX12_readUnit, ⟨by decide +kernel, by decide +kernel, by decide +kernel⟩, by decide⟩, tw_1536, (az_memP 88 (by decide +kernel) (by decide +kernel)), rfl⟩
theorem ml_L_26 : az_mV "LetterNightsLaw" 26 mX12_fault 1 11 := ⟨⟨tw_1538, tw_13, kX12_fault, ⟨by decide +kernel, by decide +kernel, by decide +kernel⟩, by decide⟩, tw_1539, tw_1540, rfl⟩
theorem ml_L_31 : az_mV "LetterNightsLaw" 31 mX12_becomes 3 11 := ⟨⟨tw_1542, tw_13, kX12_becomes, ⟨by decide +kernel, by decide +kernel, by decide +kernel⟩, by decide⟩, tw_1543, tw_1544, rfl⟩
theorem ml_X12_290 : az_mV "LetterNightsModel" 290 mX12_isTable 1 11 := ⟨⟨tw_1546, tw_13, kX12_isTable, ⟨by decide +kernel, by decide +kernel, by decide +kernel⟩, by decide⟩, tw_1548, (az_memP 89 (by decide +kernel) (by decide +kernel)), rfl⟩
theorem ml_X12_293 : az_mS "LetterNightsModel" 293 mX12_isLetter 1 := ⟨⟨tw_1550, tw_13, kX12_isLetter, ⟨by decide +kernel, by decide +kernel, by decide +kernel⟩, by decide⟩, tw_1551⟩
theorem ml_X12_239 : az_mV "LetterNightsModel" 239 mX12_becomeMany 2 11 := ⟨⟨tw_1554, tw_13, kX12_becomeMany, ⟨by decide +kernel, by decide +kernel, by decide +kernel⟩, by decide⟩, tw_1556, (az_memP 90 (by decide +kernel) (by decide +kernel)), rfl⟩
theorem ml_X12_242 : az_mV "LetterNightsModel" 242 mX12_becomeOf 3 11 := ⟨⟨tw_1558, tw_13, kX12_becomeOf, ⟨by decide +kernel, by decide +kernel, by decide +kernel⟩, by decide⟩, tw_1560, (az_memP 91 (by decide +kernel) (by decide +kernel)), rfl⟩
theorem ml_L_36 : az_mV "LetterNightsLaw" 36 mX12_picks 0 11 := ⟨⟨tw_1562, tw_13, kX12_picks, ⟨by decide +kernel, by decide +kernel, by decide +kernel⟩, by decide⟩, tw_1563, tw_1564, rfl⟩
theorem ml_X12_297 : az_mV "LetterNightsModel" 297 mX12_pickedNow 0 11 := ⟨⟨tw_1566, tw_13, kX12_pickedNow, ⟨by decide +kernel, by decide +kernel, by decide +kernel⟩, by decide⟩, tw_1568, (az_memP 92 (by decide +kernel) (by decide +kernel)), rfl⟩
theorem ml_X12_278 : az_mV "LetterNightsModel" 278 mX12_lengthNow 0 11 := ⟨⟨tw_1570, tw_13, kX12_lengthNow, ⟨by decide +kernel, by decide +kernel, by decide +kernel⟩, by decide⟩, tw_1572, (az_memP 93 (by decide +kernel) (by decide +kernel)), rfl⟩
theorem ml_X12_253 : az_mV "LetterNightsModel" 253 mX12_laysLong 0 11 := ⟨⟨tw_1574, tw_13, kX12_laysLong, ⟨by decide +kernel, by decide +kernel, by decide +kernel⟩, by decide⟩, tw_1576, (az_memP 94 (by decide +kernel) (by decide +kernel)), rfl⟩
theorem ml_X12_249 : az_mV "LetterNightsModel" 249 mX12_laysBack 1 11 := ⟨⟨tw_1578, tw_13, kX12_laysBack, ⟨by decide +kernel, by decide +kernel, by decide +kernel⟩, by decide⟩, tw_1580, (az_memP 95 (by decide +kernel) (by decide +kernel)), rfl⟩
theorem ml_X12_245 : az_mS "LetterNightsModel" 245 mX12_plus 2 := ⟨⟨tw_1582, tw_13, kX12_plus, ⟨by decide +kernel, by decide +kernel, by decide +kernel⟩, by decide⟩, tw_1583⟩
theorem ml_X12_256 : az_mV "LetterNightsModel" 256 mX12_sumOf 1 11 := ⟨⟨tw_1586, tw_13, kX12_sumOf, ⟨by decide +kernel, by decide +kernel, by decide +kernel⟩, by decide⟩, tw_1588, (az_memP 96 (by decide +kernel) (by decide +kernel)), rfl⟩
theorem ml_X12_282 : az_mV "LetterNightsModel" 282 mX12_letterAt 1 11 := ⟨⟨tw_1590, tw_13, kX12_letterAt, ⟨by decide +kernel, by decide +kernel, by decide +kernel⟩, by decide⟩, tw_1592, (az_memP 97 (by decide +kernel) (by decide +kernel)), rfl⟩
theorem ml_X12_267 : az_mV "LetterNightsModel" 267 mX12_comesTo 1 11 := ⟨⟨tw_1594, tw_13, kX12_comesTo, ⟨by decide +kernel, by decide +kernel, by decide +kernel⟩, by decide⟩, tw_1596, (az_memP 98 (by decide +kernel) (by decide +kernel)), rfl⟩
theorem ml_X12_264 : az_mV "LetterNightsModel" 264 mX12_partOf 3 11 := ⟨⟨tw_1598, tw_13, kX12_partOf, ⟨by decide +kernel, by decide +kernel, by decide +kernel⟩, by decide⟩, tw_1600, (az_memP 99 (by decide +kernel) (by decide +kernel)), rfl⟩
theorem ml_X12_287 : az_mV "LetterNightsModel" 287 mX12_reckons 1 11 := ⟨⟨tw_1603, tw_13, kX12_reckons, ⟨by decide +kernel, by decide +kernel, by decide +kernel⟩, by decide⟩, tw_1605, (az_memP 100 (by decide +kernel) (by decide +kernel)), rfl⟩
theorem ml_X12_275 : az_mS "LetterNightsModel" 275 mX12_between 3 := ⟨⟨tw_1607, tw_13, kX12_between, ⟨by decide +kernel, by decide +kernel, by decide +kernel⟩, by decide⟩, tw_1608⟩
theorem ml_L_41 : az_mV "LetterNightsLaw" 41 mX12_length 0 11 := ⟨⟨tw_1612, tw_13, kX12_length, ⟨by decide +kernel, by decide +kernel, by decide +kernel⟩, by decide⟩, tw_1613, tw_1614, rfl⟩
theorem ml_L_48 : az_mV "LetterNightsLaw" 48 mX12_letter 1 11 := ⟨⟨tw_1616, tw_13, kX12_letter, ⟨by decide +kernel, by decide +kernel, by decide +kernel⟩, by decide⟩, tw_1617, tw_1618, rfl⟩
theorem ml_L_53 : az_mV "LetterNightsLaw" 53 mX12_count 2 11 := ⟨⟨tw_1620, tw_13, kX12_count, ⟨by decide +kernel, by decide +kernel, by decide +kernel⟩, by decide⟩, tw_1621, tw_1622, rfl⟩
theorem ml_X12_304 : az_mV "LetterNightsModel" 304 mX12_laysOf 1 11 := ⟨⟨tw_1626, tw_13, kX12_laysOf, ⟨by decide +kernel, by decide +kernel, by decide +kernel⟩, by decide⟩, tw_1628, (az_memP 101 (by decide +kernel) (by decide +kernel)), rfl⟩
theorem ml_L_57 : az_mV "LetterNightsLaw" 57 mX12_place 2 11 := ⟨⟨tw_1630, tw_13, kX12_place, ⟨by decide +kernel, by decide +kernel, by decide +kernel⟩, by decide⟩, tw_1631, tw_1632, rfl⟩
theorem ml_L_62 : az_mV "LetterNightsLaw" 62 mX12_night 1 11 := ⟨⟨tw_1635, tw_13, kX12_night, ⟨by decide +kernel, by decide +kernel, by decide +kernel⟩, by decide⟩, tw_1636, tw_1637, rfl⟩
theorem ml_X12_318 : az_mV "LetterNightsModel" 318 mX12_whyNight 1 11 := ⟨⟨tw_1639, tw_13, kX12_whyNight, ⟨by decide +kernel, by decide +kernel, by decide +kernel⟩, by decide⟩, tw_1641, (az_memP 102 (by decide +kernel) (by decide +kernel)), rfl⟩
theorem ml_X12_312 : az_mV "LetterNightsModel" 312 mX12_longBehind 1 11 := ⟨⟨tw_1643, tw_13, kX12_longBehind, ⟨by decide +kernel, by decide +kernel, by decide +kernel⟩, by decide⟩, tw_1645, (az_memP 103 (by decide +kernel) (by decide +kernel)), rfl⟩
theorem ml_X12_321 : az_mV "LetterNightsModel" 321 mX12_stores 0 11 := ⟨⟨tw_1648, tw_13, kX12_stores, ⟨by decide +kernel, by decide +kernel, by decide +kernel⟩, by decide⟩, tw_1650, (az_memP 104 (by decide +kernel) (by decide +kernel)), rfl⟩
theorem ml_X12_324 : az_mV "LetterNightsModel" 324 mX12_goesNight 0 11 := ⟨⟨tw_1652, tw_13, kX12_goesNight, ⟨by decide +kernel, by decide +kernel, by decide +kernel⟩, by decide⟩, tw_1654, (az_memP 105 (by decide +kernel) (by decide +kernel)), rfl⟩
theorem ml_X12_327 : az_mV "LetterNightsModel" 327 mX12_notes 0 11 := ⟨⟨tw_1656, tw_13, kX12_notes, ⟨by decide +kernel, by decide +kernel, by decide +kernel⟩, by decide⟩, tw_1658, (az_memP 106 (by decide +kernel) (by decide +kernel)), rfl⟩
theorem ml_L_66 : az_mV "LetterNightsLaw" 66 mX12_nights 1 11 := ⟨⟨tw_1660, tw_13, kX12_nights, ⟨by decide +kernel, by decide +kernel, by decide +kernel⟩, by decide⟩, tw_1661, tw_1662, rfl⟩
theorem ml_L_70 : az_mV "LetterNightsLaw" 70 mX12_moon 1 11 := ⟨⟨tw_1665, tw_13, kX12_moon, ⟨by decide +kernel, by decide +kernel, by decide +kernel⟩, by decide⟩, tw_1666, tw_1667, rfl⟩
theorem ml_L_74 : az_mV "LetterNightsLaw" 74 mX12_undo 1 11 := ⟨⟨tw_1670, tw_13, kX12_undo, ⟨by decide +kernel, by decide +kernel, by decide +kernel⟩, by decide⟩, tw_1671, tw_1672, rfl⟩
theorem ml_L_79 : az_mV "LetterNightsLaw" 79 mX12_judge 2 11 := ⟨⟨tw_1674, tw_13, kX12_judge, ⟨by decide +kernel, by decide +kernel, by decide +kernel⟩, by decide⟩, tw_1675, tw_1676, rfl⟩
theorem ml_X12_347 : az_mV "LetterNightsModel" 347 mX12_noTray 1 11 := ⟨⟨tw_1679, tw_13, kX12_noTray, ⟨by decide +kernel, by decide +kernel, by decide +kernel⟩, by decide⟩, tw_1681, (az_memP 107 (by decide +kernel) (by decide +kernel)), rfl⟩
theorem ml_X12_350 : az_mV "LetterNightsModel" 350 mX12_storesBy 0 11 := ⟨⟨tw_1683, tw_13, kX12_storesBy, ⟨by decide +kernel, by decide +kernel, by decide +kernel⟩, by decide⟩, tw_1685, (az_memP 108 (by decide +kernel) (by decide +kernel)), rfl⟩
theorem ml_X12_353 : az_mV "LetterNightsModel" 353 mX12_tells 1 11 := ⟨⟨tw_1687, tw_13, kX12_tells, ⟨by decide +kernel, by decide +kernel, by decide +kernel⟩, by decide⟩, tw_1689, (az_memP 109 (by decide +kernel) (by decide +kernel)), rfl⟩
theorem ml_X12_341 : az_mV "LetterNightsModel" 341 mX12_whyNot 1 11 := ⟨⟨tw_1691, tw_13, kX12_whyNot, ⟨by decide +kernel, by decide +kernel, by decide +kernel⟩, by decide⟩, tw_1693, (az_memP 110 (by decide +kernel) (by decide +kernel)), rfl⟩
theorem ml_X12_344 : az_mV "LetterNightsModel" 344 mX12_does 1 11 := ⟨⟨tw_1696, tw_13, kX12_does, ⟨by decide +kernel, by decide +kernel, by decide +kernel⟩, by decide⟩, tw_1698, (az_memP 111 (by decide +kernel) (by decide +kernel)), rfl⟩
theorem ml_X12_356 : az_mV "LetterNightsModel" 356 mX12_isAgain 0 11 := ⟨⟨tw_1700, tw_13, kX12_isAgain, ⟨by decide +kernel, by decide +kernel, by decide +kernel⟩, by decide⟩, tw_1702, (az_memP 112 (by decide +kernel) (by decide +kernel)), rfl⟩
theorem ml_X12_359 : az_mV "LetterNightsModel" 359 mX12_isAgainBy 0 11 := ⟨⟨tw_1704, tw_13, kX12_isAgainBy, ⟨by decide +kernel, by decide +kernel, by decide +kernel⟩, by decide⟩, tw_1706, (az_memP 113 (by decide +kernel) (by decide +kernel)), rfl⟩
theorem ml_L_83 : az_mV "LetterNightsLaw" 83 mX12_perform 1 11 := ⟨⟨tw_1708, tw_13, kX12_perform, ⟨by decide +kernel, by decide +kernel, by decide +kernel⟩, by decide⟩, tw_1709, tw_1710, rfl⟩
theorem ml_L_87 : az_mV "LetterNightsLaw" 87 mX12_year 2 11 := ⟨⟨tw_1712, tw_13, kX12_year, ⟨by decide +kernel, by decide +kernel, by decide +kernel⟩, by decide⟩, tw_1713, tw_1714, rfl⟩
theorem ml_X12_371 : az_mV "LetterNightsModel" 371 mX12_drawn 0 11 := ⟨⟨tw_1717, tw_13, kX12_drawn, ⟨by decide +kernel, by decide +kernel, by decide +kernel⟩, by decide⟩, tw_1719, (az_memP 114 (by decide +kernel) (by decide +kernel)), rfl⟩
theorem ml_X12_366 : az_mV "LetterNightsModel" 366 mX12_draw 1 11 := ⟨⟨tw_1721, tw_13, kX12_draw, ⟨by decide +kernel, by decide +kernel, by decide +kernel⟩, by decide⟩, tw_1723, (az_memP 115 (by decide +kernel) (by decide +kernel)), rfl⟩
theorem ml_L_91 : az_mV "LetterNightsLaw" 91 mX12_occurs 1 11 := ⟨⟨tw_1726, tw_13, kX12_occurs, ⟨by decide +kernel, by decide +kernel, by decide +kernel⟩, by decide⟩, tw_1727, tw_1728, rfl⟩
theorem ml_X12_383 : az_mV "LetterNightsModel" 383 mX12_noWord 1 11 := ⟨⟨tw_1730, tw_13, kX12_noWord, ⟨by decide +kernel, by decide +kernel, by decide +kernel⟩, by decide⟩, tw_1732, (az_memP 116 (by decide +kernel) (by decide +kernel)), rfl⟩
theorem ml_X12_386 : az_mV "LetterNightsModel" 386 mX12_laysSpelling 1 11 := ⟨⟨tw_1735, tw_13, kX12_laysSpelling, ⟨by decide +kernel, by decide +kernel, by decide +kernel⟩, by decide⟩, tw_1737, (az_memP 117 (by decide +kernel) (by decide +kernel)), rfl⟩
theorem ml_X12_389 : az_mV "LetterNightsModel" 389 mX12_laysHits 0 11 := ⟨⟨tw_1739, tw_13, kX12_laysHits, ⟨by decide +kernel, by decide +kernel, by decide +kernel⟩, by decide⟩, tw_1741, (az_memP 118 (by decide +kernel) (by decide +kernel)), rfl⟩
theorem ml_X12_379 : az_mV "LetterNightsModel" 379 mX12_isRead 3 11 := ⟨⟨tw_1743, tw_13, kX12_isRead, ⟨by decide +kernel, by decide +kernel, by decide +kernel⟩, by decide⟩, tw_1745, (az_memP 119 (by decide +kernel) (by decide +kernel)), rfl⟩
theorem ml_L_95 : az_mV "LetterNightsLaw" 95 mX12_first 1 11 := ⟨⟨tw_1747, tw_13, kX12_first, ⟨by decide +kernel, by decide +kernel, by decide +kernel⟩, by decide⟩, tw_1748, tw_1749, rfl⟩
theorem ml_L_99 : az_mV "LetterNightsLaw" 99 mX12_backs 2 11 := ⟨⟨tw_1751, tw_13, kX12_backs, ⟨by decide +kernel, by decide +kernel, by decide +kernel⟩, by decide⟩, tw_1752, tw_1753, rfl⟩
theorem ml_X12_395 : az_mV "LetterNightsModel" 395 mX12_noBack 2 11 := ⟨⟨tw_1755, tw_13, kX12_noBack, ⟨by decide +kernel, by decide +kernel, by decide +kernel⟩, by decide⟩, tw_1757, (az_memP 120 (by decide +kernel) (by decide +kernel)), rfl⟩
theorem ml_X12_398 : az_mV "LetterNightsModel" 398 mX12_laysBacks 2 11 := ⟨⟨tw_1759, tw_13, kX12_laysBacks, ⟨by decide +kernel, by decide +kernel, by decide +kernel⟩, by decide⟩, tw_1761, (az_memP 121 (by decide +kernel) (by decide +kernel)), rfl⟩
theorem ml_X12_392 : az_mV "LetterNightsModel" 392 mX12_isBack 3 11 := ⟨⟨tw_1763, tw_13, kX12_isBack, ⟨by decide +kernel, by decide +kernel, by decide +kernel⟩, by decide⟩, tw_1765, (az_memP 122 (by decide +kernel) (by decide +kernel)), rfl⟩
theorem ml_L_103 : az_mV "LetterNightsLaw" 103 mX12_backBy 3 11 := ⟨⟨tw_1767, tw_13, kX12_backBy, ⟨by decide +kernel, by decide +kernel, by decide +kernel⟩, by decide⟩, tw_1768, tw_1769, rfl⟩
theorem ml_L_107 : az_mV "LetterNightsLaw" 107 mX12_fate 2 11 := ⟨⟨tw_1771, tw_13, kX12_fate, ⟨by decide +kernel, by decide +kernel, by decide +kernel⟩, by decide⟩, tw_1772, tw_1773, rfl⟩
theorem ml_X12_421 : az_mV "LetterNightsModel" 421 mX12_fateOf 2 11 := ⟨⟨tw_1775, tw_13, kX12_fateOf, ⟨by decide +kernel, by decide +kernel, by decide +kernel⟩, by decide⟩, tw_1777, (az_memP 123 (by decide +kernel) (by decide +kernel)), rfl⟩
theorem ml_X12_411 : az_mV "LetterNightsModel" 411 mX12_laysReach 1 11 := ⟨⟨tw_1779, tw_13, kX12_laysReach, ⟨by decide +kernel, by decide +kernel, by decide +kernel⟩, by decide⟩, tw_1781, (az_memP 124 (by decide +kernel) (by decide +kernel)), rfl⟩
theorem ml_X12_401 : az_mS "LetterNightsModel" 401 mX12_isIn 2 := ⟨⟨tw_1783, tw_13, kX12_isIn, ⟨by decide +kernel, by decide +kernel, by decide +kernel⟩, by decide⟩, tw_1784⟩
theorem ml_X12_405 : az_mV "LetterNightsModel" 405 mX12_itsAll 1 11 := ⟨⟨tw_1786, tw_13, kX12_itsAll, ⟨by decide +kernel, by decide +kernel, by decide +kernel⟩, by decide⟩, tw_1788, (az_memP 125 (by decide +kernel) (by decide +kernel)), rfl⟩
theorem ml_X12_414 : az_mV "LetterNightsModel" 414 mX12_isDoubled 2 11 := ⟨⟨tw_1790, tw_13, kX12_isDoubled, ⟨by decide +kernel, by decide +kernel, by decide +kernel⟩, by decide⟩, tw_1792, (az_memP 126 (by decide +kernel) (by decide +kernel)), rfl⟩
theorem ml_X12_418 : az_mV "LetterNightsModel" 418 mX12_mostRow 1 11 := ⟨⟨tw_1794, tw_13, kX12_mostRow, ⟨by decide +kernel, by decide +kernel, by decide +kernel⟩, by decide⟩, tw_1796, (az_memP 127 (by decide +kernel) (by decide +kernel)), rfl⟩
theorem ml_X12_408 : az_mV "LetterNightsModel" 408 mX12_rowFrom 1 11 := ⟨⟨tw_1798, tw_13, kX12_rowFrom, ⟨by decide +kernel, by decide +kernel, by decide +kernel⟩, by decide⟩, tw_1800, (az_memP 128 (by decide +kernel) (by decide +kernel)), rfl⟩
theorem ml_L_111 : az_mV "LetterNightsLaw" 111 mX12_degree 2 11 := ⟨⟨tw_1802, tw_13, kX12_degree, ⟨by decide +kernel, by decide +kernel, by decide +kernel⟩, by decide⟩, tw_1803, tw_1804, rfl⟩
theorem ml_L_115 : az_mV "LetterNightsLaw" 115 mX12_begins 1 11 := ⟨⟨tw_1806, tw_13, kX12_begins, ⟨by decide +kernel, by decide +kernel, by decide +kernel⟩, by decide⟩, tw_1807, tw_1808, rfl⟩
theorem ml_L_119 : az_mV "LetterNightsLaw" 119 mX12_comes 1 11 := ⟨⟨tw_1810, tw_13, kX12_comes, ⟨by decide +kernel, by decide +kernel, by decide +kernel⟩, by decide⟩, tw_1811, tw_1812, rfl⟩
theorem ml_X12_424 : az_mV "LetterNightsModel" 424 mX12_laysMany 0 11 := ⟨⟨tw_1814, tw_13, kX12_laysMany, ⟨by decide +kernel, by decide +kernel, by decide +kernel⟩, by decide⟩, tw_1816, (az_memP 129 (by decide +kernel) (by decide +kernel)), rfl⟩
theorem ml_X12_428 : az_mV "LetterNightsModel" 428 mX12_kindsIn 0 11 := ⟨⟨tw_1819, tw_13, kX12_kindsIn, ⟨by decide +kernel, by decide +kernel, by decide +kernel⟩, by decide⟩, tw_1821, (az_memP 130 (by decide +kernel) (by decide +kernel)), rfl⟩
theorem ml_X12_431 : az_mV "LetterNightsModel" 431 mX12_kindsTo 2 11 := ⟨⟨tw_1823, tw_13, kX12_kindsTo, ⟨by decide +kernel, by decide +kernel, by decide +kernel⟩, by decide⟩, tw_1825, (az_memP 131 (by decide +kernel) (by decide +kernel)), rfl⟩
theorem ml_L_123 : az_mV "LetterNightsLaw" 123 mX12_soonest 1 11 := ⟨⟨tw_1827, tw_13, kX12_soonest, ⟨by decide +kernel, by decide +kernel, by decide +kernel⟩, by decide⟩, tw_1828, tw_1829, rfl⟩
theorem ml_X12_445 : az_mV "LetterNightsModel" 445 mX12_laysFound 1 11 := ⟨⟨tw_1831, tw_13, kX12_laysFound, ⟨by decide +kernel, by decide +kernel, by decide +kernel⟩, by decide⟩, tw_1833, (az_memP 132 (by decide +kernel) (by decide +kernel)), rfl⟩
theorem ml_X12_441 : az_mV "LetterNightsModel" 441 mX12_finds 3 11 := ⟨⟨tw_1835, tw_13, kX12_finds, ⟨by decide +kernel, by decide +kernel, by decide +kernel⟩, by decide⟩, tw_1837, (az_memP 133 (by decide +kernel) (by decide +kernel)), rfl⟩
theorem ml_X12_434 : az_mV "LetterNightsModel" 434 mX12_longIn 1 11 := ⟨⟨tw_1839, tw_13, kX12_longIn, ⟨by decide +kernel, by decide +kernel, by decide +kernel⟩, by decide⟩, tw_1841, (az_memP 134 (by decide +kernel) (by decide +kernel)), rfl⟩
theorem ml_X12_437 : az_mV "LetterNightsModel" 437 mX12_goesMany 2 11 := ⟨⟨tw_1843, tw_13, kX12_goesMany, ⟨by decide +kernel, by decide +kernel, by decide +kernel⟩, by decide⟩, tw_1845, (az_memP 135 (by decide +kernel) (by decide +kernel)), rfl⟩
theorem ml_L_128 : az_mV "LetterNightsLaw" 128 mX12_way 2 11 := ⟨⟨tw_1847, tw_13, kX12_way, ⟨by decide +kernel, by decide +kernel, by decide +kernel⟩, by decide⟩, tw_1848, tw_1849, rfl⟩
theorem ml_L_132 : az_mV "LetterNightsLaw" 132 mX12_rows 2 11 := ⟨⟨tw_1851, tw_13, kX12_rows, ⟨by decide +kernel, by decide +kernel, by decide +kernel⟩, by decide⟩, tw_1852, tw_1853, rfl⟩
theorem ml_X12_448 : az_mV "LetterNightsModel" 448 mX12_rowsFrom 3 11 := ⟨⟨tw_1856, tw_13, kX12_rowsFrom, ⟨by decide +kernel, by decide +kernel, by decide +kernel⟩, by decide⟩, tw_1858, (az_memP 136 (by decide +kernel) (by decide +kernel)), rfl⟩
theorem ml_L_136 : az_mV "LetterNightsLaw" 136 mX12_longBy 1 11 := ⟨⟨tw_1860, tw_13, kX12_longBy, ⟨by decide +kernel, by decide +kernel, by decide +kernel⟩, by decide⟩, tw_1861, tw_1862, rfl⟩
theorem ml_X12_462 : az_mV "LetterNightsModel" 462 mX12_noLong 2 11 := ⟨⟨tw_1864, tw_13, kX12_noLong, ⟨by decide +kernel, by decide +kernel, by decide +kernel⟩, by decide⟩, tw_1866, (az_memP 137 (by decide +kernel) (by decide +kernel)), rfl⟩
theorem ml_X12_465 : az_mV "LetterNightsModel" 465 mX12_laysLongRows 1 11 := ⟨⟨tw_1869, tw_13, kX12_laysLongRows, ⟨by decide +kernel, by decide +kernel, by decide +kernel⟩, by decide⟩, tw_1871, (az_memP 138 (by decide +kernel) (by decide +kernel)), rfl⟩
theorem ml_X12_459 : az_mV "LetterNightsModel" 459 mX12_goesLong 2 11 := ⟨⟨tw_1873, tw_13, kX12_goesLong, ⟨by decide +kernel, by decide +kernel, by decide +kernel⟩, by decide⟩, tw_1875, (az_memP 139 (by decide +kernel) (by decide +kernel)), rfl⟩
theorem ml_L_140 : az_mV "LetterNightsLaw" 140 mX12_tables 2 11 := ⟨⟨tw_1877, tw_13, kX12_tables, ⟨by decide +kernel, by decide +kernel, by decide +kernel⟩, by decide⟩, tw_1878, tw_1879, rfl⟩
theorem ml_L_144 : az_mV "LetterNightsLaw" 144 mX12_moons 1 11 := ⟨⟨tw_1881, tw_13, kX12_moons, ⟨by decide +kernel, by decide +kernel, by decide +kernel⟩, by decide⟩, tw_1882, tw_1883, rfl⟩
theorem ml_L_148 : az_mV "LetterNightsLaw" 148 mX12_attempt 1 11 := ⟨⟨tw_1885, tw_13, kX12_attempt, ⟨by decide +kernel, by decide +kernel, by decide +kernel⟩, by decide⟩, tw_1886, tw_1887, rfl⟩
theorem ml_X12_468 : az_mV "LetterNightsModel" 468 mX12_sorts 2 11 := ⟨⟨tw_1889, tw_13, kX12_sorts, ⟨by decide +kernel, by decide +kernel, by decide +kernel⟩, by decide⟩, tw_1891, (az_memP 140 (by decide +kernel) (by decide +kernel)), rfl⟩
theorem ml_L_152 : az_mV "LetterNightsLaw" 152 mX12_turned 1 11 := ⟨⟨tw_1893, tw_13, kX12_turned, ⟨by decide +kernel, by decide +kernel, by decide +kernel⟩, by decide⟩, tw_1894, tw_1895, rfl⟩
theorem ml_X12_471 : az_mV "LetterNightsModel" 471 mX12_turnedFrom 2 11 := ⟨⟨tw_1897, tw_13, kX12_turnedFrom, ⟨by decide +kernel, by decide +kernel, by decide +kernel⟩, by decide⟩, tw_1899, (az_memP 141 (by decide +kernel) (by decide +kernel)), rfl⟩
theorem ml_L_156 : az_mV "LetterNightsLaw" 156 mX12_best 1 11 := ⟨⟨tw_1901, tw_13, kX12_best, ⟨by decide +kernel, by decide +kernel, by decide +kernel⟩, by decide⟩, tw_1902, tw_1903, rfl⟩
theorem ml_L_160 : az_mV "LetterNightsLaw" 160 mX12_chance 2 11 := ⟨⟨tw_1905, tw_13, kX12_chance, ⟨by decide +kernel, by decide +kernel, by decide +kernel⟩, by decide⟩, tw_1906, tw_1907, rfl⟩
theorem ml_X12_480 : az_mV "LetterNightsModel" 480 mX12_wholeOf 1 11 := ⟨⟨tw_1910, tw_13, kX12_wholeOf, ⟨by decide +kernel, by decide +kernel, by decide +kernel⟩, by decide⟩, tw_1912, (az_memP 142 (by decide +kernel) (by decide +kernel)), rfl⟩
theorem ml_X12_483 : az_mS "LetterNightsModel" 483 mX12_part 3 := ⟨⟨tw_1914, tw_13, kX12_part, ⟨by decide +kernel, by decide +kernel, by decide +kernel⟩, by decide⟩, tw_1915⟩
theorem ml_X12_475 : az_mS "LetterNightsModel" 475 mX12_common 2 := ⟨⟨tw_1917, tw_13, kX12_common, ⟨by decide +kernel, by decide +kernel, by decide +kernel⟩, by decide⟩, tw_1918⟩
theorem ml_L_165 : az_mV "LetterNightsLaw" 165 mX12_mean 2 11 := ⟨⟨tw_1920, tw_13, kX12_mean, ⟨by decide +kernel, by decide +kernel, by decide +kernel⟩, by decide⟩, tw_1921, tw_1922, rfl⟩
theorem ml_L_169 : az_mV "LetterNightsLaw" 169 mX12_numbers 3 11 := ⟨⟨tw_1924, tw_13, kX12_numbers, ⟨by decide +kernel, by decide +kernel, by decide +kernel⟩, by decide⟩, tw_1925, tw_1926, rfl⟩
theorem ml_L_174 : az_mV "LetterNightsLaw" 174 mX12_write 3 11 := ⟨⟨tw_1929, tw_13, kX12_write, ⟨by decide +kernel, by decide +kernel, by decide +kernel⟩, by decide⟩, tw_1930, tw_1931, rfl⟩
theorem ml_X12_491 : az_mS "LetterNightsModel" 491 mX12_cut 2 := ⟨⟨tw_1934, tw_13, kX12_cut, ⟨by decide +kernel, by decide +kernel, by decide +kernel⟩, by decide⟩, tw_1935⟩
theorem ml_L_179 : az_mV "LetterNightsLaw" 179 mX12_lists 2 11 := ⟨⟨tw_1937, tw_13, kX12_lists, ⟨by decide +kernel, by decide +kernel, by decide +kernel⟩, by decide⟩, tw_1938, tw_1939, rfl⟩
theorem ml_L_183 : az_mV "LetterNightsLaw" 183 mX12_image 1 11 := ⟨⟨tw_1941, tw_13, kX12_image, ⟨by decide +kernel, by decide +kernel, by decide +kernel⟩, by decide⟩, tw_1942, tw_1943, rfl⟩
theorem ml_L_187 : az_mV "LetterNightsLaw" 187 mX12_restore 1 11 := ⟨⟨tw_1945, tw_13, kX12_restore, ⟨by decide +kernel, by decide +kernel, by decide +kernel⟩, by decide⟩, tw_1946, tw_1947, rfl⟩
theorem ml_L_191 : az_mV "LetterNightsLaw" 191 mX12_told 1 11 := ⟨⟨tw_1949, tw_13, kX12_told, ⟨by decide +kernel, by decide +kernel, by decide +kernel⟩, by decide⟩, tw_1950, tw_1951, rfl⟩
theorem cn_J2_227 : Cond.constant "java/lang/StringUTF16" 227 (65536) ∈ az_tbl := tw_480
theorem cn_J11_110 : Cond.constant "java/lang/Character" 110 (55232) ∈ az_tbl := tw_519
theorem cn_J11_76 : Cond.constant "java/lang/Character" 76 (56320) ∈ az_tbl := tw_523
theorem cn_X11_347 : Cond.constantLong "LetterNights" 347 (6) ∈ az_tbl := tw_692
theorem cn_X3_45 : Cond.constantLong "LetterNights$Law" 45 (10) ∈ az_tbl := tw_726
theorem cn_X3_51 : Cond.constantLong "LetterNights$Law" 51 (-1000000) ∈ az_tbl := tw_733
theorem cn_X3_53 : Cond.constantLong "LetterNights$Law" 53 (1000000) ∈ az_tbl := tw_734
theorem cn_X7_54 : Cond.constantLong "LetterNights$Survey" 54 (2000000000000) ∈ az_tbl := tw_765
theorem cn_X11_148 : Cond.constantLong "LetterNights" 148 (-2) ∈ az_tbl := tw_787
theorem cn_X11_150 : Cond.constantLong "LetterNights" 150 (-3) ∈ az_tbl := tw_788
theorem cn_X11_160 : Cond.constantLong "LetterNights" 160 (-1) ∈ az_tbl := tw_797
theorem cn_X11_165 : Cond.constantLong "LetterNights" 165 (-11) ∈ az_tbl := tw_806
theorem cn_X6_122 : Cond.constantLong "LetterNights$Scene" 122 (1000000000000) ∈ az_tbl := tw_826
theorem cn_X6_114 : Cond.constantLong "LetterNights$Scene" 114 (10) ∈ az_tbl := tw_841
theorem cn_X6_116 : Cond.constantLong "LetterNights$Scene" 116 (19) ∈ az_tbl := tw_842
theorem cn_X11_206 : Cond.constantLong "LetterNights" 206 (1000000) ∈ az_tbl := tw_892
theorem cn_X11_218 : Cond.constant "LetterNights" 218 (1103515245) ∈ az_tbl := tw_909
theorem cn_X0_77 : Cond.constantLong "LetterNights$Finder" 77 (2000000000000) ∈ az_tbl := tw_941
theorem cn_X0_103 : Cond.constantLong "LetterNights$Finder" 103 (-1) ∈ az_tbl := tw_963
theorem cn_X1_117 : Cond.constantLong "LetterNights$Futures" 117 (-1) ∈ az_tbl := tw_1134
theorem cn_X8_35 : Cond.constantLong "LetterNights$Tally" 35 (3) ∈ az_tbl := tw_1143
theorem cn_X8_47 : Cond.constantLong "LetterNights$Tally" 47 (-7046029254386353131) ∈ az_tbl := tw_1148
theorem cn_X11_323 : Cond.constantLong "LetterNights" 323 (-7) ∈ az_tbl := tw_1248
theorem cn_X12_235 : Cond.constantLong "LetterNightsModel" 235 (5) ∈ az_tbl := tw_1553
theorem cn_X12_237 : Cond.constantLong "LetterNightsModel" 237 (9223372036854775807) ∈ az_tbl := tw_1585
theorem cn_X12_285 : Cond.constantLong "LetterNightsModel" 285 (10) ∈ az_tbl := tw_1602
theorem cn_X12_271 : Cond.constantLong "LetterNightsModel" 271 (1000000) ∈ az_tbl := tw_1610
theorem cn_X12_273 : Cond.constantLong "LetterNightsModel" 273 (-1000000) ∈ az_tbl := tw_1611
theorem cn_X12_300 : Cond.constantLong "LetterNightsModel" 300 (-2) ∈ az_tbl := tw_1624
theorem cn_X12_302 : Cond.constantLong "LetterNightsModel" 302 (-3) ∈ az_tbl := tw_1625
theorem cn_X12_307 : Cond.constantLong "LetterNightsModel" 307 (-1) ∈ az_tbl := tw_1634
theorem cn_X12_316 : Cond.constantLong "LetterNightsModel" 316 (1000000000000) ∈ az_tbl := tw_1647
theorem cn_X12_330 : Cond.constantLong "LetterNightsModel" 330 (60) ∈ az_tbl := tw_1664
theorem cn_X12_332 : Cond.constantLong "LetterNightsModel" 332 (9) ∈ az_tbl := tw_1669
theorem cn_X12_334 : Cond.constantLong "LetterNightsModel" 334 (3) ∈ az_tbl := tw_1678
theorem cn_X12_336 : Cond.constantLong "LetterNightsModel" 336 (19) ∈ az_tbl := tw_1695
theorem cn_X12_369 : Cond.constantLong "LetterNightsModel" 369 (20) ∈ az_tbl := tw_1716
theorem cn_X12_362 : Cond.constant "LetterNightsModel" 362 (1103515245) ∈ az_tbl := tw_1725
theorem cn_X12_374 : Cond.constantLong "LetterNightsModel" 374 (6) ∈ az_tbl := tw_1734
theorem cn_X12_427 : Cond.constant "LetterNightsModel" 427 (268435456) ∈ az_tbl := tw_1818
theorem cn_X12_452 : Cond.constantLong "LetterNightsModel" 452 (7) ∈ az_tbl := tw_1855
theorem cn_X12_454 : Cond.constantLong "LetterNightsModel" 454 (8) ∈ az_tbl := tw_1868
theorem cn_X12_478 : Cond.constantLong "LetterNightsModel" 478 (12) ∈ az_tbl := tw_1909
theorem cn_X12_487 : Cond.constantLong "LetterNightsModel" 487 (40) ∈ az_tbl := tw_1928
theorem cn_X12_489 : Cond.constantLong "LetterNightsModel" 489 (-7) ∈ az_tbl := tw_1933
theorem cn_L_42 : Cond.constantLong "LetterNightsLaw" 42 (4294967295) ∈ az_tbl := tw_1953
theorem ck_L_7 : Cond.classLink "LetterNightsLaw" 7 "LetterNights" ∈ az_tbl := tw_22
theorem nw_L_7 : az_cl "LetterNightsLaw" 7 10 [.null, .int 0, .null, .null, .null, .null, .null, .null, .null, .null, .null, .null] := ⟨RX11, TX11, 12, tyX11, rfl, ck_L_7, tw_23, tw_1, usX11, tyX11_ok, rfl, by decide +kernel, rfl⟩
theorem ck_X11_13 : Cond.classLink "LetterNights" 13 "LetterNights$Reader" ∈ az_tbl := tw_30
theorem nw_X11_13 : az_cl "LetterNights" 13 4 [.int 0, .int 0, .null, .int 0, .int 0, .int 0, .int 0, .int 0, .null, .null, .int 0] := ⟨RX5, TX5, 11, tyX5, rfl, ck_X11_13, tw_31, tw_2, usX5, tyX5_ok, rfl, by decide +kernel, rfl⟩
theorem ck_X11_20 : Cond.classLink "LetterNights" 20 "LetterNights$Past" ∈ az_tbl := tw_74
theorem nw_X11_20 : az_cl "LetterNights" 20 3 [.int 0, .null, .null, .null] := ⟨RX4, TX4, 4, tyX4, rfl, ck_X11_20, tw_75, tw_3, usX4, tyX4_ok, rfl, by decide +kernel, rfl⟩
theorem ck_X11_27 : Cond.classLink "LetterNights" 27 "LetterNights$Scene" ∈ az_tbl := tw_94
theorem nw_X11_27 : az_cl "LetterNights" 27 5 [.null, .int 0, .int 0, .int 0, .long 0, .int 0, .null, .null, .null, .null, .null, .null, .null] := ⟨RX6, TX6, 13, tyX6, rfl, ck_X11_27, tw_222, tw_8, usX6, tyX6_ok, rfl, by decide +kernel, rfl⟩
theorem ck_X11_33 : Cond.classLink "LetterNights" 33 "LetterNights$Tray" ∈ az_tbl := tw_96
theorem nw_X11_33 : az_cl "LetterNights" 33 9 [.int 0, .int 0, .null] := ⟨RX10, TX10, 3, tyX10, rfl, ck_X11_33, tw_353, tw_12, usX10, tyX10_ok, rfl, by decide +kernel, rfl⟩
theorem ck_X11_39 : Cond.classLink "LetterNights" 39 "LetterNights$Survey" ∈ az_tbl := tw_98
theorem nw_X11_39 : az_cl "LetterNights" 39 6 [.null, .null, .long 0, .long 0] := ⟨RX7, TX7, 4, tyX7, rfl, ck_X11_39, tw_99, tw_4, usX7, tyX7_ok, rfl, by decide +kernel, rfl⟩
theorem ck_X11_46 : Cond.classLink "LetterNights" 46 "LetterNights$Finder" ∈ az_tbl := tw_119
theorem nw_X11_46 : az_cl "LetterNights" 46 0 [.null, .int 0, .null, .null, .null, .int 0, .long 0, .null] := ⟨RX0, TX0, 8, tyX0, rfl, ck_X11_46, tw_120, tw_5, usX0, tyX0_ok, rfl, by decide +kernel, rfl⟩
theorem ck_X11_53 : Cond.classLink "LetterNights" 53 "LetterNights$Kin" ∈ az_tbl := tw_151
theorem nw_X11_53 : az_cl "LetterNights" 53 2 [.null, .null] := ⟨RX2, TX2, 2, tyX2, rfl, ck_X11_53, tw_152, tw_6, usX2, tyX2_ok, rfl, by decide +kernel, rfl⟩
theorem ck_X11_60 : Cond.classLink "LetterNights" 60 "LetterNights$Town" ∈ az_tbl := tw_164
theorem nw_X11_60 : az_cl "LetterNights" 60 8 [.int 0, .int 0, .int 0, .int 0, .null, .null, .null, .null, .null] := ⟨RX9, TX9, 9, tyX9, rfl, ck_X11_60, tw_165, tw_7, usX9, tyX9_ok, rfl, by decide +kernel, rfl⟩
theorem ck_X11_73 : Cond.classLink "LetterNights" 73 "LetterNights$Futures" ∈ az_tbl := tw_303
theorem nw_X11_73 : az_cl "LetterNights" 73 1 [.null, .null, .null, .null, .null, .int 0, .null, .null] := ⟨RX1, TX1, 8, tyX1, rfl, ck_X11_73, tw_304, tw_10, usX1, tyX1_ok, rfl, by decide +kernel, rfl⟩
theorem ck_X1_22 : Cond.classLink "LetterNights$Futures" 22 "LetterNights$Tally" ∈ az_tbl := tw_309
theorem nw_X1_22 : az_cl "LetterNights$Futures" 22 7 [.null, .null, .int 0, .null] := ⟨RX8, TX8, 4, tyX8, rfl, ck_X1_22, tw_310, tw_11, usX8, tyX8_ok, rfl, by decide +kernel, rfl⟩
theorem ck_X5_44 : Cond.classLink "LetterNights$Reader" 44 "LetterNights$Town" ∈ az_tbl := tw_524
theorem nw_X5_44 : az_cl "LetterNights$Reader" 44 8 [.int 0, .int 0, .int 0, .int 0, .null, .null, .null, .null, .null] := ⟨RX9, TX9, 9, tyX9, rfl, ck_X5_44, tw_165, tw_7, usX9, tyX9_ok, rfl, by decide +kernel, rfl⟩
theorem ck_J7_317 : Cond.classLink "java/util/Arrays" 317 "[I" ∈ az_tbl := tw_666
theorem ck_L_10 : Cond.classLink "LetterNightsLaw" 10 "LetterNightsModel" ∈ az_tbl := tw_1275
theorem nw_L_10 : az_cl "LetterNightsLaw" 10 11 [.int 0, .null, .null, .null, .null, .int 0, .int 0, .int 0, .int 0, .int 0, .int 0, .int 0, .int 0, .int 0, .int 0, .null, .null, .null, .long 0, .null, .null, .null, .int 0, .int 0, .null, .int 0, .null, .null, .null, .int 0, .null, .null, .null, .null, .null, .null, .null, .int 0, .null, .null, .null, .null, .null, .null, .null] := ⟨RX12, TX12, 45, tyX12, rfl, ck_L_10, tw_1276, tw_13, usX12, tyX12_ok, rfl, by decide +kernel, rfl⟩
theorem ac_byte : Cond.arrayClass FieldType.byte ∈ az_tbl := tw_72
theorem ac_int : Cond.arrayClass FieldType.int ∈ az_tbl := tw_73
theorem ac_long : Cond.arrayClass FieldType.long ∈ az_tbl := tw_118
theorem ac_boolean : Cond.arrayClass FieldType.boolean ∈ az_tbl := tw_1420
theorem ax_nat : Cond.native arraycopyName ∈ az_tbl := tw_670
theorem ax_sta : Cond.static arraycopyName ∈ az_tbl := tw_669
theorem ax_ini : Cond.initialized "java/lang/System" ∈ az_tbl := tw_20
theorem ox_ins : Cond.instanceMethod Lib.objectInit ∈ az_tbl := tw_28
theorem ox_cod : Cond.code Lib.objectInit ⟨#[0xb1]⟩ 1 none ∈ az_tbl := tw_29
theorem ol_X11_1 : Cond.methodLink "LetterNights" 1 Lib.objectInit ∈ az_tbl := tw_27
theorem ol_X5_3 : Cond.methodLink "LetterNights$Reader" 3 Lib.objectInit ∈ az_tbl := tw_35
theorem ol_X4_1 : Cond.methodLink "LetterNights$Past" 1 Lib.objectInit ∈ az_tbl := tw_79
theorem ol_X7_3 : Cond.methodLink "LetterNights$Survey" 3 Lib.objectInit ∈ az_tbl := tw_103
theorem ol_X0_3 : Cond.methodLink "LetterNights$Finder" 3 Lib.objectInit ∈ az_tbl := tw_124
theorem ol_X2_3 : Cond.methodLink "LetterNights$Kin" 3 Lib.objectInit ∈ az_tbl := tw_156
theorem ol_X9_3 : Cond.methodLink "LetterNights$Town" 3 Lib.objectInit ∈ az_tbl := tw_169
theorem ol_X6_3 : Cond.methodLink "LetterNights$Scene" 3 Lib.objectInit ∈ az_tbl := tw_226
theorem ol_X1_3 : Cond.methodLink "LetterNights$Futures" 3 Lib.objectInit ∈ az_tbl := tw_308
theorem ol_X8_3 : Cond.methodLink "LetterNights$Tally" 3 Lib.objectInit ∈ az_tbl := tw_314
theorem ol_X10_3 : Cond.methodLink "LetterNights$Tray" 3 Lib.objectInit ∈ az_tbl := tw_357
theorem al_J7_150 : Cond.methodLink "java/util/Arrays" 150 arraycopyName ∈ az_tbl := tw_668
theorem al_X6_67 : Cond.methodLink "LetterNights$Scene" 67 arraycopyName ∈ az_tbl := tw_836
theorem al_X4_34 : Cond.methodLink "LetterNights$Past" 34 arraycopyName ∈ az_tbl := tw_847
theorem al_X1_43 : Cond.methodLink "LetterNights$Futures" 43 arraycopyName ∈ az_tbl := tw_1065
theorem ol_X12_7 : Cond.methodLink "LetterNightsModel" 7 Lib.objectInit ∈ az_tbl := tw_1280
