/-! the good words of the tables, one list for all methods -/
def zw : List Cond := lw_tbl.filter goodWord
abbrev zq (y : MethodName) (b : ByteArray) (n : Nat) (r : Option FieldType) : List Cond := .code y b n r :: zw
theorem zm {w : Cond} (i : Nat) (h : lw_tbl[i]? = some w) (g : goodWord w = true) : w ∈ zw := List.mem_filter.mpr ⟨List.mem_of_getElem? h, g⟩
theorem zw_sub : ∀ w ∈ zw, w ∈ lw_tbl := fun _ h => (List.mem_filter.mp h).1
theorem zw_gd {w : Cond} (h : w ∈ zw) : (w.onTables && w.keeps) = true ∨ ∃ ty, w = .arrayClass ty := good_of_word (List.mem_filter.mp h).2
theorem zg_0 {w0 : Cond} (h : w0 ∈ zw) : GoodIn zw (w0 :: zw) := fun w hw => by
  rcases List.mem_cons.mp hw with rfl | hw
  · exact ⟨h, zw_gd h⟩
  · exact ⟨hw, zw_gd hw⟩
theorem zg_l {L ws : List Cond} (h : ∀ w ∈ L, w ∈ zw) (hg : GoodIn zw ws) : GoodIn zw (L ++ ws) := fun w hw => by
  rcases List.mem_append.mp hw with hw | hw
  · exact ⟨h w hw, zw_gd (h w hw)⟩
  · exact hg w hw
theorem zg_V {own C : String} {idx n : Nat} {y : MethodName} {b : ByteArray} {r : Option FieldType} (h1 : Cond.methodLink own idx y ∈ zw) (h2 : Cond.instanceMethod y ∈ zw) (h3 : Cond.selects C y y ∈ zw) (h4 : Cond.initialized C ∈ zw) (h5 : Cond.code y b n r ∈ zw) : GoodIn zw (wsV own idx C y (zq y b n r)) :=
  zg_l (List.forall_mem_cons.mpr ⟨h1, List.forall_mem_cons.mpr ⟨h2, List.forall_mem_cons.mpr ⟨h3, List.forall_mem_cons.mpr ⟨h4, fun _ h => absurd h List.not_mem_nil⟩⟩⟩⟩) (zg_0 h5)
theorem zg_S {own : String} {idx : Nat} {y : MethodName} {w0 : Cond} (h1 : Cond.methodLink own idx y ∈ zw) (h2 : Cond.static y ∈ zw) (h3 : Cond.initialized y.cls ∈ zw) (h5 : w0 ∈ zw) : GoodIn zw (va_wsS own idx y (w0 :: zw)) :=
  zg_l (List.forall_mem_cons.mpr ⟨h1, List.forall_mem_cons.mpr ⟨h2, List.forall_mem_cons.mpr ⟨h3, fun _ h => absurd h List.not_mem_nil⟩⟩⟩) (zg_0 h5)
theorem zw_in (L : List Cond) (h : L.all (fun w => lw_tbl.contains w && goodWord w) = true) : ∀ w ∈ L, w ∈ zw := fun w hw => by
  have h1 := List.all_eq_true.mp h w hw
  rw [Bool.and_eq_true] at h1
  exact List.mem_filter.mpr ⟨List.contains_iff_mem.mp h1.1, h1.2⟩
set_option maxRecDepth 100000 in
theorem zw_0 : Cond.selects RX1 yX1_wanted yX1_wanted ∈ zw := zm 0 (by rfl) (by rfl)
set_option maxRecDepth 100000 in
theorem zw_1 : Cond.selects RX4 yX4_call yX4_call ∈ zw := zm 1 (by rfl) (by rfl)
set_option maxRecDepth 100000 in
theorem zw_2 : Cond.selects RX4 yX4_push yX4_push ∈ zw := zm 2 (by rfl) (by rfl)
set_option maxRecDepth 100000 in
theorem zw_3 : Cond.selects RX4 yX4_writeWord yX4_writeWord ∈ zw := zm 3 (by rfl) (by rfl)
set_option maxRecDepth 100000 in
theorem zw_4 : Cond.selects RX4 yX4_execute yX4_execute ∈ zw := zm 4 (by rfl) (by rfl)
set_option maxRecDepth 100000 in
theorem zw_5 : Cond.selects RX4 yX4_executeGroup0 yX4_executeGroup0 ∈ zw := zm 5 (by rfl) (by rfl)
set_option maxRecDepth 100000 in
theorem zw_6 : Cond.selects RX4 yX4_useMask yX4_useMask ∈ zw := zm 6 (by rfl) (by rfl)
set_option maxRecDepth 100000 in
theorem zw_7 : Cond.selects RX4 yX4_loadOrAddPair yX4_loadOrAddPair ∈ zw := zm 7 (by rfl) (by rfl)
set_option maxRecDepth 100000 in
theorem zw_8 : Cond.selects RX4 yX4_fetchWord yX4_fetchWord ∈ zw := zm 8 (by rfl) (by rfl)
set_option maxRecDepth 100000 in
theorem zw_9 : Cond.selects RX4 yX4_fetch yX4_fetch ∈ zw := zm 9 (by rfl) (by rfl)
set_option maxRecDepth 100000 in
theorem zw_10 : Cond.selects RX4 yX4_putPair yX4_putPair ∈ zw := zm 10 (by rfl) (by rfl)
set_option maxRecDepth 100000 in
theorem zw_11 : Cond.selects RX4 yX4_pair yX4_pair ∈ zw := zm 11 (by rfl) (by rfl)
set_option maxRecDepth 100000 in
theorem zw_12 : Cond.selects RX4 yX4_moveByAddress yX4_moveByAddress ∈ zw := zm 12 (by rfl) (by rfl)
set_option maxRecDepth 100000 in
theorem zw_13 : Cond.selects RX4 yX4_write yX4_write ∈ zw := zm 13 (by rfl) (by rfl)
set_option maxRecDepth 100000 in
theorem zw_14 : Cond.selects RX4 yX4_read yX4_read ∈ zw := zm 14 (by rfl) (by rfl)
set_option maxRecDepth 100000 in
theorem zw_15 : Cond.selects RX4 yX4_readWord yX4_readWord ∈ zw := zm 15 (by rfl) (by rfl)
set_option maxRecDepth 100000 in
theorem zw_16 : Cond.selects RX4 yX4_countPair yX4_countPair ∈ zw := zm 16 (by rfl) (by rfl)
set_option maxRecDepth 100000 in
theorem zw_17 : Cond.selects RX4 yX4_countUp yX4_countUp ∈ zw := zm 17 (by rfl) (by rfl)
set_option maxRecDepth 100000 in
theorem zw_18 : Cond.selects RX4 yX4_register yX4_register ∈ zw := zm 18 (by rfl) (by rfl)
set_option maxRecDepth 100000 in
theorem zw_19 : Cond.selects RX4 yX4_putRegister yX4_putRegister ∈ zw := zm 19 (by rfl) (by rfl)
set_option maxRecDepth 100000 in
theorem zw_20 : Cond.selects RX4 yX4_countDown yX4_countDown ∈ zw := zm 20 (by rfl) (by rfl)
set_option maxRecDepth 100000 in
theorem zw_21 : Cond.selects RX4 yX4_changeAccumulator yX4_changeAccumulator ∈ zw := zm 21 (by rfl) (by rfl)
set_option maxRecDepth 100000 in
theorem zw_22 : Cond.selects RX4 yX4_turnLeft yX4_turnLeft ∈ zw := zm 22 (by rfl) (by rfl)
set_option maxRecDepth 100000 in
theorem zw_23 : Cond.selects RX4 yX4_turnRight yX4_turnRight ∈ zw := zm 23 (by rfl) (by rfl)
set_option maxRecDepth 100000 in
theorem zw_24 : Cond.selects RX4 yX4_move yX4_move ∈ zw := zm 24 (by rfl) (by rfl)
set_option maxRecDepth 100000 in
theorem zw_25 : Cond.selects RX4 yX4_operate yX4_operate ∈ zw := zm 25 (by rfl) (by rfl)
set_option maxRecDepth 100000 in
theorem zw_26 : Cond.selects RX4 yX4_executeGroup3 yX4_executeGroup3 ∈ zw := zm 26 (by rfl) (by rfl)
set_option maxRecDepth 100000 in
theorem zw_27 : Cond.selects RX4 yX4_pop yX4_pop ∈ zw := zm 27 (by rfl) (by rfl)
set_option maxRecDepth 100000 in
theorem zw_28 : Cond.selects RX4 yX4_popOrReturn yX4_popOrReturn ∈ zw := zm 28 (by rfl) (by rfl)
set_option maxRecDepth 100000 in
theorem zw_29 : Cond.selects RX4 yX4_popAccumulatorAndFlags yX4_popAccumulatorAndFlags ∈ zw := zm 29 (by rfl) (by rfl)
set_option maxRecDepth 100000 in
theorem zw_30 : Cond.selects RX4 yX4_jumpIf yX4_jumpIf ∈ zw := zm 30 (by rfl) (by rfl)
set_option maxRecDepth 100000 in
theorem zw_31 : Cond.selects RX4 yX4_executeSpecial yX4_executeSpecial ∈ zw := zm 31 (by rfl) (by rfl)
set_option maxRecDepth 100000 in
theorem zw_32 : Cond.selects RX2 yX2_clear yX2_clear ∈ zw := zm 32 (by rfl) (by rfl)
set_option maxRecDepth 100000 in
theorem zw_33 : Cond.selects RX4 yX4_exchangeWithStack yX4_exchangeWithStack ∈ zw := zm 33 (by rfl) (by rfl)
set_option maxRecDepth 100000 in
theorem zw_34 : Cond.selects RX4 yX4_exchangeWithDe yX4_exchangeWithDe ∈ zw := zm 34 (by rfl) (by rfl)
set_option maxRecDepth 100000 in
theorem zw_35 : Cond.selects RX4 yX4_callIf yX4_callIf ∈ zw := zm 35 (by rfl) (by rfl)
set_option maxRecDepth 100000 in
theorem zw_36 : Cond.selects RX4 yX4_pushOrGo yX4_pushOrGo ∈ zw := zm 36 (by rfl) (by rfl)
set_option maxRecDepth 100000 in
theorem zw_37 : Cond.selects RX4 yX4_passTicks yX4_passTicks ∈ zw := zm 37 (by rfl) (by rfl)
set_option maxRecDepth 100000 in
theorem zw_38 : Cond.selects RX2 yX2_scan yX2_scan ∈ zw := zm 38 (by rfl) (by rfl)
set_option maxRecDepth 100000 in
theorem zw_39 : Cond.selects RX2 yX2_enqueue yX2_enqueue ∈ zw := zm 39 (by rfl) (by rfl)
set_option maxRecDepth 100000 in
theorem zw_41 : Cond.selects RX7 yX7_once yX7_once ∈ zw := zm 41 (by rfl) (by rfl)
set_option maxRecDepth 100000 in
theorem zw_42 : Cond.selects RX7 yX7_wanted yX7_wanted ∈ zw := zm 42 (by rfl) (by rfl)
set_option maxRecDepth 100000 in
theorem zw_43 : Cond.selects RX7 yX7_call yX7_call ∈ zw := zm 43 (by rfl) (by rfl)
set_option maxRecDepth 100000 in
theorem zw_44 : Cond.selects RX7 yX7_push yX7_push ∈ zw := zm 44 (by rfl) (by rfl)
set_option maxRecDepth 100000 in
theorem zw_45 : Cond.selects RX7 yX7_write yX7_write ∈ zw := zm 45 (by rfl) (by rfl)
set_option maxRecDepth 100000 in
theorem zw_46 : Cond.selects RX7 yX7_instruction yX7_instruction ∈ zw := zm 46 (by rfl) (by rfl)
set_option maxRecDepth 100000 in
theorem zw_47 : Cond.selects RX7 yX7_fetch yX7_fetch ∈ zw := zm 47 (by rfl) (by rfl)
set_option maxRecDepth 100000 in
theorem zw_48 : Cond.selects RX7 yX7_read yX7_read ∈ zw := zm 48 (by rfl) (by rfl)
set_option maxRecDepth 100000 in
theorem zw_49 : Cond.selects RX7 yX7_first yX7_first ∈ zw := zm 49 (by rfl) (by rfl)
set_option maxRecDepth 100000 in
theorem zw_50 : Cond.selects RX7 yX7_setMask yX7_setMask ∈ zw := zm 50 (by rfl) (by rfl)
set_option maxRecDepth 100000 in
theorem zw_51 : Cond.selects RX7 yX7_pairOf yX7_pairOf ∈ zw := zm 51 (by rfl) (by rfl)
set_option maxRecDepth 100000 in
theorem zw_52 : Cond.selects RX7 yX7_pair yX7_pair ∈ zw := zm 52 (by rfl) (by rfl)
set_option maxRecDepth 100000 in
theorem zw_53 : Cond.selects RX7 yX7_fetchTwo yX7_fetchTwo ∈ zw := zm 53 (by rfl) (by rfl)
set_option maxRecDepth 100000 in
theorem zw_54 : Cond.selects RX7 yX7_putPair yX7_putPair ∈ zw := zm 54 (by rfl) (by rfl)
set_option maxRecDepth 100000 in
theorem zw_55 : Cond.selects RX7 yX7_hl yX7_hl ∈ zw := zm 55 (by rfl) (by rfl)
set_option maxRecDepth 100000 in
theorem zw_56 : Cond.selects RX7 yX7_flag yX7_flag ∈ zw := zm 56 (by rfl) (by rfl)
set_option maxRecDepth 100000 in
theorem zw_57 : Cond.selects RX7 yX7_memoryOf yX7_memoryOf ∈ zw := zm 57 (by rfl) (by rfl)
set_option maxRecDepth 100000 in
theorem zw_58 : Cond.selects RX7 yX7_stepRegister yX7_stepRegister ∈ zw := zm 58 (by rfl) (by rfl)
set_option maxRecDepth 100000 in
theorem zw_59 : Cond.selects RX7 yX7_is yX7_is ∈ zw := zm 59 (by rfl) (by rfl)
set_option maxRecDepth 100000 in
theorem zw_60 : Cond.selects RX7 yX7_get yX7_get ∈ zw := zm 60 (by rfl) (by rfl)
set_option maxRecDepth 100000 in
theorem zw_61 : Cond.selects RX7 yX7_sum yX7_sum ∈ zw := zm 61 (by rfl) (by rfl)
set_option maxRecDepth 100000 in
theorem zw_62 : Cond.selects RX7 yX7_mark yX7_mark ∈ zw := zm 62 (by rfl) (by rfl)
set_option maxRecDepth 100000 in
theorem zw_63 : Cond.selects RX7 yX7_difference yX7_difference ∈ zw := zm 63 (by rfl) (by rfl)
set_option maxRecDepth 100000 in
theorem zw_64 : Cond.selects RX7 yX7_put yX7_put ∈ zw := zm 64 (by rfl) (by rfl)
set_option maxRecDepth 100000 in
theorem zw_65 : Cond.selects RX7 yX7_turn yX7_turn ∈ zw := zm 65 (by rfl) (by rfl)
set_option maxRecDepth 100000 in
theorem zw_66 : Cond.selects RX7 yX7_decimal yX7_decimal ∈ zw := zm 66 (by rfl) (by rfl)
set_option maxRecDepth 100000 in
theorem zw_67 : Cond.selects RX7 yX7_operate yX7_operate ∈ zw := zm 67 (by rfl) (by rfl)
set_option maxRecDepth 100000 in
theorem zw_68 : Cond.selects RX7 yX7_logic yX7_logic ∈ zw := zm 68 (by rfl) (by rfl)
set_option maxRecDepth 100000 in
theorem zw_69 : Cond.selects RX7 yX7_last yX7_last ∈ zw := zm 69 (by rfl) (by rfl)
set_option maxRecDepth 100000 in
theorem zw_70 : Cond.selects RX7 yX7_holds yX7_holds ∈ zw := zm 70 (by rfl) (by rfl)
set_option maxRecDepth 100000 in
theorem zw_71 : Cond.selects RX7 yX7_pop yX7_pop ∈ zw := zm 71 (by rfl) (by rfl)
set_option maxRecDepth 100000 in
theorem zw_72 : Cond.selects RX7 yX7_popOf yX7_popOf ∈ zw := zm 72 (by rfl) (by rfl)
set_option maxRecDepth 100000 in
theorem zw_73 : Cond.selects RX7 yX7_others yX7_others ∈ zw := zm 73 (by rfl) (by rfl)
set_option maxRecDepth 100000 in
theorem zw_74 : Cond.selects RX7 yX7_out yX7_out ∈ zw := zm 74 (by rfl) (by rfl)
set_option maxRecDepth 100000 in
theorem zw_75 : Cond.selects RX7 yX7_lengthOf yX7_lengthOf ∈ zw := zm 75 (by rfl) (by rfl)
set_option maxRecDepth 100000 in
theorem zw_76 : Cond.selects RX7 yX7_in yX7_in ∈ zw := zm 76 (by rfl) (by rfl)
set_option maxRecDepth 100000 in
theorem zw_77 : Cond.selects RX7 yX7_status yX7_status ∈ zw := zm 77 (by rfl) (by rfl)
set_option maxRecDepth 100000 in
theorem zw_78 : Cond.selects RX7 yX7_pushOf yX7_pushOf ∈ zw := zm 78 (by rfl) (by rfl)
set_option maxRecDepth 100000 in
theorem zw_79 : Cond.selects RX7 yX7_pass yX7_pass ∈ zw := zm 79 (by rfl) (by rfl)
set_option maxRecDepth 100000 in
theorem zw_80 : Cond.selects RX7 yX7_tickTimer yX7_tickTimer ∈ zw := zm 80 (by rfl) (by rfl)
set_option maxRecDepth 100000 in
theorem zw_81 : Cond.selects RX7 yX7_scan yX7_scan ∈ zw := zm 81 (by rfl) (by rfl)
set_option maxRecDepth 100000 in
theorem zw_82 : Cond.initialized RL ∈ zw := zm 82 (by rfl) (by rfl)
set_option maxRecDepth 100000 in
theorem zw_83 : Cond.initialized RX6 ∈ zw := zm 83 (by rfl) (by rfl)
set_option maxRecDepth 100000 in
theorem zw_84 : Cond.initialized RX5 ∈ zw := zm 84 (by rfl) (by rfl)
set_option maxRecDepth 100000 in
theorem zw_85 : Cond.initialized RX2 ∈ zw := zm 85 (by rfl) (by rfl)
set_option maxRecDepth 100000 in
theorem zw_86 : Cond.initialized RX1 ∈ zw := zm 86 (by rfl) (by rfl)
set_option maxRecDepth 100000 in
theorem zw_87 : Cond.initialized RX4 ∈ zw := zm 87 (by rfl) (by rfl)
set_option maxRecDepth 100000 in
theorem zw_88 : Cond.initialized RX0 ∈ zw := zm 88 (by rfl) (by rfl)
set_option maxRecDepth 100000 in
theorem zw_89 : Cond.initialized RX3 ∈ zw := zm 89 (by rfl) (by rfl)
set_option maxRecDepth 100000 in
theorem zw_90 : Cond.initialized RX7 ∈ zw := zm 90 (by rfl) (by rfl)
set_option maxRecDepth 100000 in
theorem zw_91 : Cond.initialized RJ6 ∈ zw := zm 91 (by rfl) (by rfl)
set_option maxRecDepth 100000 in
theorem zw_92 : Cond.initialized RJ9 ∈ zw := zm 92 (by rfl) (by rfl)
set_option maxRecDepth 100000 in
theorem zw_93 : Cond.initialized "java/lang/Throwable" ∈ zw := zm 93 (by rfl) (by rfl)
set_option maxRecDepth 100000 in
theorem zw_94 : Cond.initialized "java/lang/Exception" ∈ zw := zm 94 (by rfl) (by rfl)
set_option maxRecDepth 100000 in
theorem zw_95 : Cond.initialized "java/lang/RuntimeException" ∈ zw := zm 95 (by rfl) (by rfl)
set_option maxRecDepth 100000 in
theorem zw_96 : Cond.initialized "java/lang/IllegalArgumentException" ∈ zw := zm 96 (by rfl) (by rfl)
set_option maxRecDepth 100000 in
theorem zw_97 : Cond.initialized "java/lang/IndexOutOfBoundsException" ∈ zw := zm 97 (by rfl) (by rfl)
set_option maxRecDepth 100000 in
theorem zw_98 : Cond.classLink RL 8 RX6 ∈ zw := zm 98 (by rfl) (by rfl)
set_option maxRecDepth 100000 in
theorem zw_99 : Cond.instantiable RX6 5 ∈ zw := zm 99 (by rfl) (by rfl)
set_option maxRecDepth 100000 in
theorem zw_100 : Cond.methodLink RL 34 yX6_init ∈ zw := zm 100 (by rfl) (by rfl)
set_option maxRecDepth 100000 in
theorem zw_101 : Cond.instanceMethod yX6_init ∈ zw := zm 101 (by rfl) (by rfl)
set_option maxRecDepth 100000 in
theorem zw_102 : Cond.code yX6_init cX6_init 1 none ∈ zw := zm 102 (by rfl) (by rfl)
set_option maxRecDepth 100000 in
theorem zw_103 : Cond.methodLink RX6 1 objectInit ∈ zw := zm 103 (by rfl) (by rfl)
set_option maxRecDepth 100000 in
theorem zw_104 : Cond.instanceMethod objectInit ∈ zw := zm 104 (by rfl) (by rfl)
set_option maxRecDepth 100000 in
theorem zw_105 : Cond.code objectInit ⟨#[0xb1]⟩ 1 none ∈ zw := zm 105 (by rfl) (by rfl)
set_option maxRecDepth 100000 in
theorem zw_106 : Cond.classLink RX6 13 RX5 ∈ zw := zm 106 (by rfl) (by rfl)
set_option maxRecDepth 100000 in
theorem zw_107 : Cond.instantiable RX5 7 ∈ zw := zm 107 (by rfl) (by rfl)
set_option maxRecDepth 100000 in
theorem zw_109 : Cond.instanceMethod yX5_init ∈ zw := zm 109 (by rfl) (by rfl)
set_option maxRecDepth 100000 in
theorem zw_110 : Cond.code yX5_init cX5_init 1 none ∈ zw := zm 110 (by rfl) (by rfl)
set_option maxRecDepth 100000 in
theorem zw_111 : Cond.methodLink RX5 1 objectInit ∈ zw := zm 111 (by rfl) (by rfl)
set_option maxRecDepth 100000 in
theorem zw_112 : Cond.fieldLink RX5 20 "KeyboardKit$Timer" "lowByte" "I" ∈ zw := zm 112 (by rfl) (by rfl)
set_option maxRecDepth 100000 in
theorem zw_114 : Cond.fieldLink RX5 17 "KeyboardKit$Timer" "highByte" "I" ∈ zw := zm 114 (by rfl) (by rfl)
set_option maxRecDepth 100000 in
theorem zw_116 : Cond.fieldLink RX5 29 "KeyboardKit$Timer" "length" "I" ∈ zw := zm 116 (by rfl) (by rfl)
set_option maxRecDepth 100000 in
theorem zw_117 : Cond.fieldLink RX5 32 "KeyboardKit$Timer" "goesOn" "Z" ∈ zw := zm 117 (by rfl) (by rfl)
set_option maxRecDepth 100000 in
theorem zw_118 : Cond.fieldLink RX5 13 "KeyboardKit$Timer" "stopsAtEnd" "Z" ∈ zw := zm 118 (by rfl) (by rfl)
set_option maxRecDepth 100000 in
theorem zw_119 : Cond.fieldLink RX5 35 "KeyboardKit$Timer" "endedSinceRead" "Z" ∈ zw := zm 119 (by rfl) (by rfl)
set_option maxRecDepth 100000 in
theorem zw_120 : Cond.fieldLink RX5 7 "KeyboardKit$Timer" "left" "I" ∈ zw := zm 120 (by rfl) (by rfl)
set_option maxRecDepth 100000 in
theorem zw_137 : Cond.arrayClass .int ∈ zw := zm 137 (by rfl) (by rfl)
set_option maxRecDepth 100000 in
theorem zw_138 : Cond.classLink RX6 20 RX2 ∈ zw := zm 138 (by rfl) (by rfl)
set_option maxRecDepth 100000 in
theorem zw_139 : Cond.instantiable RX2 11 ∈ zw := zm 139 (by rfl) (by rfl)
set_option maxRecDepth 100000 in
theorem zw_141 : Cond.instanceMethod yX2_init ∈ zw := zm 141 (by rfl) (by rfl)
set_option maxRecDepth 100000 in
theorem zw_142 : Cond.code yX2_init cX2_init 1 none ∈ zw := zm 142 (by rfl) (by rfl)
set_option maxRecDepth 100000 in
theorem zw_143 : Cond.methodLink RX2 3 objectInit ∈ zw := zm 143 (by rfl) (by rfl)
set_option maxRecDepth 100000 in
theorem zw_144 : Cond.fieldLink RX2 9 "KeyboardKit$KeyUnit" "down" "[Z" ∈ zw := zm 144 (by rfl) (by rfl)
set_option maxRecDepth 100000 in
theorem zw_146 : Cond.fieldLink RX2 15 "KeyboardKit$KeyUnit" "downBefore" "[Z" ∈ zw := zm 146 (by rfl) (by rfl)
set_option maxRecDepth 100000 in
theorem zw_147 : Cond.fieldLink RX2 18 "KeyboardKit$KeyUnit" "counted" "[Z" ∈ zw := zm 147 (by rfl) (by rfl)
set_option maxRecDepth 100000 in
theorem zw_148 : Cond.fieldLink RX2 21 "KeyboardKit$KeyUnit" "queue" "[I" ∈ zw := zm 148 (by rfl) (by rfl)
set_option maxRecDepth 100000 in
theorem zw_149 : Cond.fieldLink RX2 39 "KeyboardKit$KeyUnit" "queueStart" "I" ∈ zw := zm 149 (by rfl) (by rfl)
set_option maxRecDepth 100000 in
theorem zw_150 : Cond.fieldLink RX2 32 "KeyboardKit$KeyUnit" "queued" "I" ∈ zw := zm 150 (by rfl) (by rfl)
set_option maxRecDepth 100000 in
theorem zw_152 : Cond.fieldLink RX2 35 "KeyboardKit$KeyUnit" "underrun" "Z" ∈ zw := zm 152 (by rfl) (by rfl)
set_option maxRecDepth 100000 in
theorem zw_153 : Cond.fieldLink RX2 48 "KeyboardKit$KeyUnit" "overrun" "Z" ∈ zw := zm 153 (by rfl) (by rfl)
set_option maxRecDepth 100000 in
theorem zw_154 : Cond.fieldLink RX2 25 "KeyboardKit$KeyUnit" "display" "[I" ∈ zw := zm 154 (by rfl) (by rfl)
set_option maxRecDepth 100000 in
theorem zw_156 : Cond.fieldLink RX2 42 "KeyboardKit$KeyUnit" "place" "I" ∈ zw := zm 156 (by rfl) (by rfl)
set_option maxRecDepth 100000 in
theorem zw_157 : Cond.fieldLink RX2 28 "KeyboardKit$KeyUnit" "ticksToScan" "I" ∈ zw := zm 157 (by rfl) (by rfl)
set_option maxRecDepth 100000 in
theorem zw_181 : Cond.arrayClass .boolean ∈ zw := zm 181 (by rfl) (by rfl)
set_option maxRecDepth 100000 in
theorem zw_182 : Cond.classLink RX6 27 RX1 ∈ zw := zm 182 (by rfl) (by rfl)
set_option maxRecDepth 100000 in
theorem zw_183 : Cond.instantiable RX1 7 ∈ zw := zm 183 (by rfl) (by rfl)
set_option maxRecDepth 100000 in
theorem zw_185 : Cond.instanceMethod yX1_init ∈ zw := zm 185 (by rfl) (by rfl)
set_option maxRecDepth 100000 in
theorem zw_186 : Cond.code yX1_init cX1_init 1 none ∈ zw := zm 186 (by rfl) (by rfl)
set_option maxRecDepth 100000 in
theorem zw_187 : Cond.methodLink RX1 1 objectInit ∈ zw := zm 187 (by rfl) (by rfl)
set_option maxRecDepth 100000 in
theorem zw_188 : Cond.fieldLink RX1 13 "KeyboardKit$Interrupts" "on" "Z" ∈ zw := zm 188 (by rfl) (by rfl)
set_option maxRecDepth 100000 in
theorem zw_191 : Cond.fieldLink RX1 17 "KeyboardKit$Interrupts" "heldBack" "Z" ∈ zw := zm 191 (by rfl) (by rfl)
set_option maxRecDepth 100000 in
theorem zw_193 : Cond.fieldLink RX1 9 "KeyboardKit$Interrupts" "masks" "I" ∈ zw := zm 193 (by rfl) (by rfl)
set_option maxRecDepth 100000 in
theorem zw_196 : Cond.fieldLink RX1 23 "KeyboardKit$Interrupts" "timerEnded" "Z" ∈ zw := zm 196 (by rfl) (by rfl)
set_option maxRecDepth 100000 in
theorem zw_197 : Cond.fieldLink RX1 20 "KeyboardKit$Interrupts" "line65" "Z" ∈ zw := zm 197 (by rfl) (by rfl)
set_option maxRecDepth 100000 in
theorem zw_199 : Cond.fieldLink RX1 33 "KeyboardKit$Interrupts" "serialIn" "Z" ∈ zw := zm 199 (by rfl) (by rfl)
set_option maxRecDepth 100000 in
theorem zw_201 : Cond.fieldLink RX1 30 "KeyboardKit$Interrupts" "serialOut" "Z" ∈ zw := zm 201 (by rfl) (by rfl)
set_option maxRecDepth 100000 in
theorem zw_218 : Cond.classLink RX6 34 RX4 ∈ zw := zm 218 (by rfl) (by rfl)
set_option maxRecDepth 100000 in
theorem zw_219 : Cond.instantiable RX4 11 ∈ zw := zm 219 (by rfl) (by rfl)
set_option maxRecDepth 100000 in
theorem zw_220 : Cond.methodLink RX6 36 yX4_init ∈ zw := zm 220 (by rfl) (by rfl)
set_option maxRecDepth 100000 in
theorem zw_221 : Cond.instanceMethod yX4_init ∈ zw := zm 221 (by rfl) (by rfl)
set_option maxRecDepth 100000 in
theorem zw_222 : Cond.code yX4_init cX4_init 5 none ∈ zw := zm 222 (by rfl) (by rfl)
set_option maxRecDepth 100000 in
theorem zw_223 : Cond.methodLink RX4 3 objectInit ∈ zw := zm 223 (by rfl) (by rfl)
set_option maxRecDepth 100000 in
theorem zw_224 : Cond.classLink RX4 15 RX0 ∈ zw := zm 224 (by rfl) (by rfl)
set_option maxRecDepth 100000 in
theorem zw_225 : Cond.instantiable RX0 1 ∈ zw := zm 225 (by rfl) (by rfl)
set_option maxRecDepth 100000 in
theorem zw_227 : Cond.instanceMethod yX0_init ∈ zw := zm 227 (by rfl) (by rfl)
set_option maxRecDepth 100000 in
theorem zw_228 : Cond.code yX0_init cX0_init 1 none ∈ zw := zm 228 (by rfl) (by rfl)
set_option maxRecDepth 100000 in
theorem zw_229 : Cond.methodLink RX0 3 objectInit ∈ zw := zm 229 (by rfl) (by rfl)
set_option maxRecDepth 100000 in
theorem zw_230 : Cond.fieldLink RX0 9 "KeyboardKit$Flags" "all" "I" ∈ zw := zm 230 (by rfl) (by rfl)
set_option maxRecDepth 100000 in
theorem zw_236 : Cond.classLink RX4 37 RX3 ∈ zw := zm 236 (by rfl) (by rfl)
set_option maxRecDepth 100000 in
theorem zw_237 : Cond.instantiable RX3 2 ∈ zw := zm 237 (by rfl) (by rfl)
set_option maxRecDepth 100000 in
theorem zw_238 : Cond.methodLink RX4 39 yX3_init ∈ zw := zm 238 (by rfl) (by rfl)
set_option maxRecDepth 100000 in
theorem zw_239 : Cond.instanceMethod yX3_init ∈ zw := zm 239 (by rfl) (by rfl)
set_option maxRecDepth 100000 in
theorem zw_240 : Cond.code yX3_init cX3_init 3 none ∈ zw := zm 240 (by rfl) (by rfl)
set_option maxRecDepth 100000 in
theorem zw_241 : Cond.methodLink RX3 1 objectInit ∈ zw := zm 241 (by rfl) (by rfl)
set_option maxRecDepth 100000 in
theorem zw_242 : Cond.fieldLink RX3 7 "KeyboardKit$Ports" "timer" "LKeyboardKit$Timer;" ∈ zw := zm 242 (by rfl) (by rfl)
set_option maxRecDepth 100000 in
theorem zw_243 : Cond.fieldLink RX3 13 "KeyboardKit$Ports" "unit" "LKeyboardKit$KeyUnit;" ∈ zw := zm 243 (by rfl) (by rfl)
set_option maxRecDepth 100000 in
theorem zw_249 : Cond.fieldLink RX4 22 "KeyboardKit$Processor" "memory" "[I" ∈ zw := zm 249 (by rfl) (by rfl)
set_option maxRecDepth 100000 in
theorem zw_250 : Cond.fieldLink RX4 25 "KeyboardKit$Processor" "timer" "LKeyboardKit$Timer;" ∈ zw := zm 250 (by rfl) (by rfl)
set_option maxRecDepth 100000 in
theorem zw_251 : Cond.fieldLink RX4 29 "KeyboardKit$Processor" "unit" "LKeyboardKit$KeyUnit;" ∈ zw := zm 251 (by rfl) (by rfl)
set_option maxRecDepth 100000 in
theorem zw_252 : Cond.fieldLink RX4 33 "KeyboardKit$Processor" "interrupts" "LKeyboardKit$Interrupts;" ∈ zw := zm 252 (by rfl) (by rfl)
set_option maxRecDepth 100000 in
theorem zw_253 : Cond.fieldLink RX4 42 "KeyboardKit$Processor" "ports" "LKeyboardKit$Ports;" ∈ zw := zm 253 (by rfl) (by rfl)
set_option maxRecDepth 100000 in
theorem zw_254 : Cond.fieldLink RX4 9 "KeyboardKit$Processor" "registers" "[I" ∈ zw := zm 254 (by rfl) (by rfl)
set_option maxRecDepth 100000 in
theorem zw_256 : Cond.fieldLink RX4 18 "KeyboardKit$Processor" "flags" "LKeyboardKit$Flags;" ∈ zw := zm 256 (by rfl) (by rfl)
set_option maxRecDepth 100000 in
theorem zw_259 : Cond.fieldLink RX4 221 "KeyboardKit$Processor" "sp" "I" ∈ zw := zm 259 (by rfl) (by rfl)
set_option maxRecDepth 100000 in
theorem zw_260 : Cond.fieldLink RX4 72 "KeyboardKit$Processor" "pc" "I" ∈ zw := zm 260 (by rfl) (by rfl)
set_option maxRecDepth 100000 in
theorem zw_262 : Cond.fieldLink RX4 61 "KeyboardKit$Processor" "halts" "Z" ∈ zw := zm 262 (by rfl) (by rfl)
set_option maxRecDepth 100000 in
theorem zw_264 : Cond.fieldLink RX4 46 "KeyboardKit$Processor" "ticks" "I" ∈ zw := zm 264 (by rfl) (by rfl)
set_option maxRecDepth 100000 in
theorem zw_288 : Cond.fieldLink RX6 9 "KeyboardKit" "memory" "[I" ∈ zw := zm 288 (by rfl) (by rfl)
set_option maxRecDepth 100000 in
theorem zw_289 : Cond.fieldLink RX6 16 "KeyboardKit" "timer" "LKeyboardKit$Timer;" ∈ zw := zm 289 (by rfl) (by rfl)
set_option maxRecDepth 100000 in
theorem zw_290 : Cond.fieldLink RX6 23 "KeyboardKit" "unit" "LKeyboardKit$KeyUnit;" ∈ zw := zm 290 (by rfl) (by rfl)
set_option maxRecDepth 100000 in
theorem zw_291 : Cond.fieldLink RX6 30 "KeyboardKit" "interrupts" "LKeyboardKit$Interrupts;" ∈ zw := zm 291 (by rfl) (by rfl)
set_option maxRecDepth 100000 in
theorem zw_292 : Cond.fieldLink RX6 39 "KeyboardKit" "processor" "LKeyboardKit$Processor;" ∈ zw := zm 292 (by rfl) (by rfl)
set_option maxRecDepth 100000 in
theorem zw_304 : Cond.methodLink RL 38 yX6_poke ∈ zw := zm 304 (by rfl) (by rfl)
set_option maxRecDepth 100000 in
theorem zw_305 : Cond.instanceMethod yX6_poke ∈ zw := zm 305 (by rfl) (by rfl)
set_option maxRecDepth 100000 in
theorem zw_306 : Cond.selects RX6 yX6_poke yX6_poke ∈ zw := zm 306 (by rfl) (by rfl)
set_option maxRecDepth 100000 in
theorem zw_307 : Cond.code yX6_poke cX6_poke 4 (some .int) ∈ zw := zm 307 (by rfl) (by rfl)
set_option maxRecDepth 100000 in
theorem zw_308 : Cond.methodLink RL 43 yX6_peek ∈ zw := zm 308 (by rfl) (by rfl)
set_option maxRecDepth 100000 in
theorem zw_309 : Cond.instanceMethod yX6_peek ∈ zw := zm 309 (by rfl) (by rfl)
set_option maxRecDepth 100000 in
theorem zw_310 : Cond.selects RX6 yX6_peek yX6_peek ∈ zw := zm 310 (by rfl) (by rfl)
set_option maxRecDepth 100000 in
theorem zw_311 : Cond.code yX6_peek cX6_peek 2 (some .int) ∈ zw := zm 311 (by rfl) (by rfl)
set_option maxRecDepth 100000 in
theorem zw_312 : Cond.methodLink RL 47 yX6_step ∈ zw := zm 312 (by rfl) (by rfl)
set_option maxRecDepth 100000 in
theorem zw_313 : Cond.instanceMethod yX6_step ∈ zw := zm 313 (by rfl) (by rfl)
set_option maxRecDepth 100000 in
theorem zw_314 : Cond.selects RX6 yX6_step yX6_step ∈ zw := zm 314 (by rfl) (by rfl)
set_option maxRecDepth 100000 in
theorem zw_315 : Cond.code yX6_step cX6_step 1 (some .int) ∈ zw := zm 315 (by rfl) (by rfl)
set_option maxRecDepth 100000 in
theorem zw_316 : Cond.methodLink RX6 43 yX4_advance ∈ zw := zm 316 (by rfl) (by rfl)
set_option maxRecDepth 100000 in
theorem zw_317 : Cond.instanceMethod yX4_advance ∈ zw := zm 317 (by rfl) (by rfl)
set_option maxRecDepth 100000 in
theorem zw_318 : Cond.selects RX4 yX4_advance yX4_advance ∈ zw := zm 318 (by rfl) (by rfl)
set_option maxRecDepth 100000 in
theorem zw_319 : Cond.code yX4_advance cX4_advance 3 (some .int) ∈ zw := zm 319 (by rfl) (by rfl)
set_option maxRecDepth 100000 in
theorem zw_320 : Cond.methodLink RX4 55 yX1_serve ∈ zw := zm 320 (by rfl) (by rfl)
set_option maxRecDepth 100000 in
theorem zw_321 : Cond.instanceMethod yX1_serve ∈ zw := zm 321 (by rfl) (by rfl)
set_option maxRecDepth 100000 in
theorem zw_322 : Cond.selects RX1 yX1_serve yX1_serve ∈ zw := zm 322 (by rfl) (by rfl)
set_option maxRecDepth 100000 in
theorem zw_323 : Cond.code yX1_serve cX1_serve 3 (some .int) ∈ zw := zm 323 (by rfl) (by rfl)
set_option maxRecDepth 100000 in
theorem zw_324 : Cond.methodLink RX1 26 yX1_wanted ∈ zw := zm 324 (by rfl) (by rfl)
set_option maxRecDepth 100000 in
theorem zw_326 : Cond.instanceMethod yX1_wanted ∈ zw := zm 326 (by rfl) (by rfl)
set_option maxRecDepth 100000 in
theorem zw_327 : Cond.code yX1_wanted cX1_wanted 2 (some .int) ∈ zw := zm 327 (by rfl) (by rfl)
set_option maxRecDepth 100000 in
theorem zw_328 : Cond.methodLink RX4 65 yX4_call ∈ zw := zm 328 (by rfl) (by rfl)
set_option maxRecDepth 100000 in
theorem zw_330 : Cond.instanceMethod yX4_call ∈ zw := zm 330 (by rfl) (by rfl)
set_option maxRecDepth 100000 in
theorem zw_331 : Cond.code yX4_call cX4_call 2 none ∈ zw := zm 331 (by rfl) (by rfl)
set_option maxRecDepth 100000 in
theorem zw_332 : Cond.methodLink RX4 241 yX4_push ∈ zw := zm 332 (by rfl) (by rfl)
set_option maxRecDepth 100000 in
theorem zw_334 : Cond.instanceMethod yX4_push ∈ zw := zm 334 (by rfl) (by rfl)
set_option maxRecDepth 100000 in
theorem zw_335 : Cond.code yX4_push cX4_push 2 none ∈ zw := zm 335 (by rfl) (by rfl)
set_option maxRecDepth 100000 in
theorem zw_336 : Cond.constant RX4 75 (65535) ∈ zw := zm 336 (by rfl) (by rfl)
set_option maxRecDepth 100000 in
theorem zw_337 : Cond.methodLink RX4 186 yX4_writeWord ∈ zw := zm 337 (by rfl) (by rfl)
set_option maxRecDepth 100000 in
theorem zw_339 : Cond.instanceMethod yX4_writeWord ∈ zw := zm 339 (by rfl) (by rfl)
set_option maxRecDepth 100000 in
theorem zw_340 : Cond.code yX4_writeWord cX4_writeWord 3 none ∈ zw := zm 340 (by rfl) (by rfl)
set_option maxRecDepth 100000 in
theorem zw_341 : Cond.methodLink RX4 76 yX4_execute ∈ zw := zm 341 (by rfl) (by rfl)
set_option maxRecDepth 100000 in
theorem zw_343 : Cond.instanceMethod yX4_execute ∈ zw := zm 343 (by rfl) (by rfl)
set_option maxRecDepth 100000 in
theorem zw_344 : Cond.code yX4_execute cX4_execute 4 none ∈ zw := zm 344 (by rfl) (by rfl)
set_option maxRecDepth 100000 in
theorem zw_345 : Cond.methodLink RX4 93 yX4_executeGroup0 ∈ zw := zm 345 (by rfl) (by rfl)
set_option maxRecDepth 100000 in
theorem zw_347 : Cond.instanceMethod yX4_executeGroup0 ∈ zw := zm 347 (by rfl) (by rfl)
set_option maxRecDepth 100000 in
theorem zw_348 : Cond.code yX4_executeGroup0 cX4_executeGroup0 3 none ∈ zw := zm 348 (by rfl) (by rfl)
set_option maxRecDepth 100000 in
theorem zw_349 : Cond.methodLink RX4 110 yX4_useMask ∈ zw := zm 349 (by rfl) (by rfl)
set_option maxRecDepth 100000 in
theorem zw_351 : Cond.instanceMethod yX4_useMask ∈ zw := zm 351 (by rfl) (by rfl)
set_option maxRecDepth 100000 in
theorem zw_352 : Cond.code yX4_useMask cX4_useMask 2 none ∈ zw := zm 352 (by rfl) (by rfl)
set_option maxRecDepth 100000 in
theorem zw_353 : Cond.methodLink RX4 161 yX1_readMask ∈ zw := zm 353 (by rfl) (by rfl)
set_option maxRecDepth 100000 in
theorem zw_354 : Cond.instanceMethod yX1_readMask ∈ zw := zm 354 (by rfl) (by rfl)
set_option maxRecDepth 100000 in
theorem zw_355 : Cond.selects RX1 yX1_readMask yX1_readMask ∈ zw := zm 355 (by rfl) (by rfl)
set_option maxRecDepth 100000 in
theorem zw_356 : Cond.code yX1_readMask cX1_readMask 2 (some .int) ∈ zw := zm 356 (by rfl) (by rfl)
set_option maxRecDepth 100000 in
theorem zw_357 : Cond.methodLink RX4 164 yX1_setMask ∈ zw := zm 357 (by rfl) (by rfl)
set_option maxRecDepth 100000 in
theorem zw_358 : Cond.instanceMethod yX1_setMask ∈ zw := zm 358 (by rfl) (by rfl)
set_option maxRecDepth 100000 in
theorem zw_359 : Cond.selects RX1 yX1_setMask yX1_setMask ∈ zw := zm 359 (by rfl) (by rfl)
set_option maxRecDepth 100000 in
theorem zw_360 : Cond.code yX1_setMask cX1_setMask 2 none ∈ zw := zm 360 (by rfl) (by rfl)
set_option maxRecDepth 100000 in
theorem zw_361 : Cond.methodLink RX4 113 yX4_loadOrAddPair ∈ zw := zm 361 (by rfl) (by rfl)
set_option maxRecDepth 100000 in
theorem zw_363 : Cond.instanceMethod yX4_loadOrAddPair ∈ zw := zm 363 (by rfl) (by rfl)
set_option maxRecDepth 100000 in
theorem zw_364 : Cond.code yX4_loadOrAddPair cX4_loadOrAddPair 3 none ∈ zw := zm 364 (by rfl) (by rfl)
set_option maxRecDepth 100000 in
theorem zw_365 : Cond.methodLink RX4 167 yX4_fetchWord ∈ zw := zm 365 (by rfl) (by rfl)
set_option maxRecDepth 100000 in
theorem zw_367 : Cond.instanceMethod yX4_fetchWord ∈ zw := zm 367 (by rfl) (by rfl)
set_option maxRecDepth 100000 in
theorem zw_368 : Cond.code yX4_fetchWord cX4_fetchWord 2 (some .int) ∈ zw := zm 368 (by rfl) (by rfl)
set_option maxRecDepth 100000 in
theorem zw_369 : Cond.methodLink RX4 128 yX4_fetch ∈ zw := zm 369 (by rfl) (by rfl)
set_option maxRecDepth 100000 in
theorem zw_371 : Cond.instanceMethod yX4_fetch ∈ zw := zm 371 (by rfl) (by rfl)
set_option maxRecDepth 100000 in
theorem zw_372 : Cond.code yX4_fetch cX4_fetch 2 (some .int) ∈ zw := zm 372 (by rfl) (by rfl)
set_option maxRecDepth 100000 in
theorem zw_373 : Cond.methodLink RX4 170 yX4_putPair ∈ zw := zm 373 (by rfl) (by rfl)
set_option maxRecDepth 100000 in
theorem zw_375 : Cond.instanceMethod yX4_putPair ∈ zw := zm 375 (by rfl) (by rfl)
set_option maxRecDepth 100000 in
theorem zw_376 : Cond.code yX4_putPair cX4_putPair 4 none ∈ zw := zm 376 (by rfl) (by rfl)
set_option maxRecDepth 100000 in
theorem zw_377 : Cond.methodLink RX4 173 yX4_pair ∈ zw := zm 377 (by rfl) (by rfl)
set_option maxRecDepth 100000 in
theorem zw_379 : Cond.instanceMethod yX4_pair ∈ zw := zm 379 (by rfl) (by rfl)
set_option maxRecDepth 100000 in
theorem zw_380 : Cond.code yX4_pair cX4_pair 2 (some .int) ∈ zw := zm 380 (by rfl) (by rfl)
set_option maxRecDepth 100000 in
theorem zw_381 : Cond.methodLink RX4 176 yX0_put ∈ zw := zm 381 (by rfl) (by rfl)
set_option maxRecDepth 100000 in
theorem zw_382 : Cond.instanceMethod yX0_put ∈ zw := zm 382 (by rfl) (by rfl)
set_option maxRecDepth 100000 in
theorem zw_383 : Cond.selects RX0 yX0_put yX0_put ∈ zw := zm 383 (by rfl) (by rfl)
set_option maxRecDepth 100000 in
theorem zw_384 : Cond.code yX0_put cX0_put 3 none ∈ zw := zm 384 (by rfl) (by rfl)
set_option maxRecDepth 100000 in
theorem zw_385 : Cond.methodLink RX4 116 yX4_moveByAddress ∈ zw := zm 385 (by rfl) (by rfl)
set_option maxRecDepth 100000 in
theorem zw_387 : Cond.instanceMethod yX4_moveByAddress ∈ zw := zm 387 (by rfl) (by rfl)
set_option maxRecDepth 100000 in
theorem zw_388 : Cond.code yX4_moveByAddress cX4_moveByAddress 2 none ∈ zw := zm 388 (by rfl) (by rfl)
set_option maxRecDepth 100000 in
theorem zw_389 : Cond.methodLink RX4 180 yX4_write ∈ zw := zm 389 (by rfl) (by rfl)
set_option maxRecDepth 100000 in
theorem zw_391 : Cond.instanceMethod yX4_write ∈ zw := zm 391 (by rfl) (by rfl)
set_option maxRecDepth 100000 in
theorem zw_392 : Cond.code yX4_write cX4_write 3 none ∈ zw := zm 392 (by rfl) (by rfl)
set_option maxRecDepth 100000 in
theorem zw_393 : Cond.methodLink RX4 183 yX4_read ∈ zw := zm 393 (by rfl) (by rfl)
set_option maxRecDepth 100000 in
theorem zw_395 : Cond.instanceMethod yX4_read ∈ zw := zm 395 (by rfl) (by rfl)
set_option maxRecDepth 100000 in
theorem zw_396 : Cond.code yX4_read cX4_read 2 (some .int) ∈ zw := zm 396 (by rfl) (by rfl)
set_option maxRecDepth 100000 in
theorem zw_397 : Cond.methodLink RX4 189 yX4_readWord ∈ zw := zm 397 (by rfl) (by rfl)
set_option maxRecDepth 100000 in
theorem zw_399 : Cond.instanceMethod yX4_readWord ∈ zw := zm 399 (by rfl) (by rfl)
set_option maxRecDepth 100000 in
theorem zw_400 : Cond.code yX4_readWord cX4_readWord 2 (some .int) ∈ zw := zm 400 (by rfl) (by rfl)
set_option maxRecDepth 100000 in
theorem zw_401 : Cond.methodLink RX4 119 yX4_countPair ∈ zw := zm 401 (by rfl) (by rfl)
set_option maxRecDepth 100000 in
theorem zw_403 : Cond.instanceMethod yX4_countPair ∈ zw := zm 403 (by rfl) (by rfl)
set_option maxRecDepth 100000 in
theorem zw_404 : Cond.code yX4_countPair cX4_countPair 3 none ∈ zw := zm 404 (by rfl) (by rfl)
set_option maxRecDepth 100000 in
theorem zw_405 : Cond.methodLink RX4 122 yX4_countUp ∈ zw := zm 405 (by rfl) (by rfl)
set_option maxRecDepth 100000 in
theorem zw_407 : Cond.instanceMethod yX4_countUp ∈ zw := zm 407 (by rfl) (by rfl)
set_option maxRecDepth 100000 in
theorem zw_408 : Cond.code yX4_countUp cX4_countUp 3 none ∈ zw := zm 408 (by rfl) (by rfl)
set_option maxRecDepth 100000 in
theorem zw_409 : Cond.methodLink RX4 192 yX0_has ∈ zw := zm 409 (by rfl) (by rfl)
set_option maxRecDepth 100000 in
theorem zw_410 : Cond.instanceMethod yX0_has ∈ zw := zm 410 (by rfl) (by rfl)
set_option maxRecDepth 100000 in
theorem zw_411 : Cond.selects RX0 yX0_has yX0_has ∈ zw := zm 411 (by rfl) (by rfl)
set_option maxRecDepth 100000 in
theorem zw_412 : Cond.code yX0_has cX0_has 2 (some .boolean) ∈ zw := zm 412 (by rfl) (by rfl)
set_option maxRecDepth 100000 in
theorem zw_413 : Cond.methodLink RX4 100 yX4_register ∈ zw := zm 413 (by rfl) (by rfl)
set_option maxRecDepth 100000 in
theorem zw_415 : Cond.instanceMethod yX4_register ∈ zw := zm 415 (by rfl) (by rfl)
set_option maxRecDepth 100000 in
theorem zw_416 : Cond.code yX4_register cX4_register 2 (some .int) ∈ zw := zm 416 (by rfl) (by rfl)
set_option maxRecDepth 100000 in
theorem zw_417 : Cond.methodLink RX4 195 yX0_sum ∈ zw := zm 417 (by rfl) (by rfl)
set_option maxRecDepth 100000 in
theorem zw_418 : Cond.instanceMethod yX0_sum ∈ zw := zm 418 (by rfl) (by rfl)
set_option maxRecDepth 100000 in
theorem zw_419 : Cond.selects RX0 yX0_sum yX0_sum ∈ zw := zm 419 (by rfl) (by rfl)
set_option maxRecDepth 100000 in
theorem zw_420 : Cond.code yX0_sum cX0_sum 8 (some .int) ∈ zw := zm 420 (by rfl) (by rfl)
set_option maxRecDepth 100000 in
theorem zw_421 : Cond.methodLink RX0 19 yJ6_bitCount_0f7a4 ∈ zw := zm 421 (by rfl) (by rfl)
set_option maxRecDepth 100000 in
theorem zw_422 : Cond.static yJ6_bitCount_0f7a4 ∈ zw := zm 422 (by rfl) (by rfl)
set_option maxRecDepth 100000 in
theorem zw_423 : Cond.code yJ6_bitCount_0f7a4 cJ6_bitCount_0f7a4 1 (some .int) ∈ zw := zm 423 (by rfl) (by rfl)
set_option maxRecDepth 100000 in
theorem zw_424 : Cond.constant RJ6 265 (1431655765) ∈ zw := zm 424 (by rfl) (by rfl)
set_option maxRecDepth 100000 in
theorem zw_425 : Cond.constant RJ6 266 (858993459) ∈ zw := zm 425 (by rfl) (by rfl)
set_option maxRecDepth 100000 in
theorem zw_426 : Cond.constant RJ6 267 (252645135) ∈ zw := zm 426 (by rfl) (by rfl)
set_option maxRecDepth 100000 in
theorem zw_427 : Cond.methodLink RX4 132 yX4_putRegister ∈ zw := zm 427 (by rfl) (by rfl)
set_option maxRecDepth 100000 in
theorem zw_429 : Cond.instanceMethod yX4_putRegister ∈ zw := zm 429 (by rfl) (by rfl)
set_option maxRecDepth 100000 in
theorem zw_430 : Cond.code yX4_putRegister cX4_putRegister 3 none ∈ zw := zm 430 (by rfl) (by rfl)
set_option maxRecDepth 100000 in
theorem zw_431 : Cond.methodLink RX4 125 yX4_countDown ∈ zw := zm 431 (by rfl) (by rfl)
set_option maxRecDepth 100000 in
theorem zw_433 : Cond.instanceMethod yX4_countDown ∈ zw := zm 433 (by rfl) (by rfl)
set_option maxRecDepth 100000 in
theorem zw_434 : Cond.code yX4_countDown cX4_countDown 3 none ∈ zw := zm 434 (by rfl) (by rfl)
set_option maxRecDepth 100000 in
theorem zw_435 : Cond.methodLink RX4 199 yX0_difference ∈ zw := zm 435 (by rfl) (by rfl)
set_option maxRecDepth 100000 in
theorem zw_436 : Cond.instanceMethod yX0_difference ∈ zw := zm 436 (by rfl) (by rfl)
set_option maxRecDepth 100000 in
theorem zw_437 : Cond.selects RX0 yX0_difference yX0_difference ∈ zw := zm 437 (by rfl) (by rfl)
set_option maxRecDepth 100000 in
theorem zw_438 : Cond.code yX0_difference cX0_difference 5 (some .int) ∈ zw := zm 438 (by rfl) (by rfl)
set_option maxRecDepth 100000 in
theorem zw_439 : Cond.methodLink RX0 25 yX0_sum ∈ zw := zm 439 (by rfl) (by rfl)
set_option maxRecDepth 100000 in
theorem zw_440 : Cond.methodLink RX4 135 yX4_changeAccumulator ∈ zw := zm 440 (by rfl) (by rfl)
set_option maxRecDepth 100000 in
theorem zw_442 : Cond.instanceMethod yX4_changeAccumulator ∈ zw := zm 442 (by rfl) (by rfl)
set_option maxRecDepth 100000 in
theorem zw_443 : Cond.code yX4_changeAccumulator cX4_changeAccumulator 3 none ∈ zw := zm 443 (by rfl) (by rfl)
set_option maxRecDepth 100000 in
theorem zw_444 : Cond.methodLink RX4 202 yX4_turnLeft ∈ zw := zm 444 (by rfl) (by rfl)
set_option maxRecDepth 100000 in
theorem zw_446 : Cond.instanceMethod yX4_turnLeft ∈ zw := zm 446 (by rfl) (by rfl)
set_option maxRecDepth 100000 in
theorem zw_447 : Cond.code yX4_turnLeft cX4_turnLeft 3 none ∈ zw := zm 447 (by rfl) (by rfl)
set_option maxRecDepth 100000 in
theorem zw_448 : Cond.methodLink RX4 205 yX4_turnRight ∈ zw := zm 448 (by rfl) (by rfl)
set_option maxRecDepth 100000 in
theorem zw_450 : Cond.instanceMethod yX4_turnRight ∈ zw := zm 450 (by rfl) (by rfl)
set_option maxRecDepth 100000 in
theorem zw_451 : Cond.code yX4_turnRight cX4_turnRight 3 none ∈ zw := zm 451 (by rfl) (by rfl)
set_option maxRecDepth 100000 in
theorem zw_452 : Cond.methodLink RX4 208 yX0_carry ∈ zw := zm 452 (by rfl) (by rfl)
set_option maxRecDepth 100000 in
theorem zw_453 : Cond.instanceMethod yX0_carry ∈ zw := zm 453 (by rfl) (by rfl)
set_option maxRecDepth 100000 in
theorem zw_454 : Cond.selects RX0 yX0_carry yX0_carry ∈ zw := zm 454 (by rfl) (by rfl)
set_option maxRecDepth 100000 in
theorem zw_455 : Cond.code yX0_carry cX0_carry 1 (some .int) ∈ zw := zm 455 (by rfl) (by rfl)
set_option maxRecDepth 100000 in
theorem zw_456 : Cond.methodLink RX4 211 yX0_decimal ∈ zw := zm 456 (by rfl) (by rfl)
set_option maxRecDepth 100000 in
theorem zw_457 : Cond.instanceMethod yX0_decimal ∈ zw := zm 457 (by rfl) (by rfl)
set_option maxRecDepth 100000 in
theorem zw_458 : Cond.selects RX0 yX0_decimal yX0_decimal ∈ zw := zm 458 (by rfl) (by rfl)
set_option maxRecDepth 100000 in
theorem zw_459 : Cond.code yX0_decimal cX0_decimal 5 (some .int) ∈ zw := zm 459 (by rfl) (by rfl)
set_option maxRecDepth 100000 in
theorem zw_460 : Cond.methodLink RX0 15 yX0_has ∈ zw := zm 460 (by rfl) (by rfl)
set_option maxRecDepth 100000 in
theorem zw_461 : Cond.methodLink RX0 29 yX0_put ∈ zw := zm 461 (by rfl) (by rfl)
set_option maxRecDepth 100000 in
theorem zw_462 : Cond.methodLink RX4 97 yX4_move ∈ zw := zm 462 (by rfl) (by rfl)
set_option maxRecDepth 100000 in
theorem zw_464 : Cond.instanceMethod yX4_move ∈ zw := zm 464 (by rfl) (by rfl)
set_option maxRecDepth 100000 in
theorem zw_465 : Cond.code yX4_move cX4_move 3 none ∈ zw := zm 465 (by rfl) (by rfl)
set_option maxRecDepth 100000 in
theorem zw_466 : Cond.methodLink RX4 104 yX4_operate ∈ zw := zm 466 (by rfl) (by rfl)
set_option maxRecDepth 100000 in
theorem zw_468 : Cond.instanceMethod yX4_operate ∈ zw := zm 468 (by rfl) (by rfl)
set_option maxRecDepth 100000 in
theorem zw_469 : Cond.code yX4_operate cX4_operate 4 none ∈ zw := zm 469 (by rfl) (by rfl)
set_option maxRecDepth 100000 in
theorem zw_470 : Cond.methodLink RX4 214 yX0_bitwise ∈ zw := zm 470 (by rfl) (by rfl)
set_option maxRecDepth 100000 in
theorem zw_471 : Cond.instanceMethod yX0_bitwise ∈ zw := zm 471 (by rfl) (by rfl)
set_option maxRecDepth 100000 in
theorem zw_472 : Cond.selects RX0 yX0_bitwise yX0_bitwise ∈ zw := zm 472 (by rfl) (by rfl)
set_option maxRecDepth 100000 in
theorem zw_473 : Cond.code yX0_bitwise cX0_bitwise 3 (some .int) ∈ zw := zm 473 (by rfl) (by rfl)
set_option maxRecDepth 100000 in
theorem zw_474 : Cond.methodLink RX4 107 yX4_executeGroup3 ∈ zw := zm 474 (by rfl) (by rfl)
set_option maxRecDepth 100000 in
theorem zw_476 : Cond.instanceMethod yX4_executeGroup3 ∈ zw := zm 476 (by rfl) (by rfl)
set_option maxRecDepth 100000 in
theorem zw_477 : Cond.code yX4_executeGroup3 cX4_executeGroup3 3 none ∈ zw := zm 477 (by rfl) (by rfl)
set_option maxRecDepth 100000 in
theorem zw_478 : Cond.methodLink RX4 138 yX0_meets ∈ zw := zm 478 (by rfl) (by rfl)
set_option maxRecDepth 100000 in
theorem zw_479 : Cond.instanceMethod yX0_meets ∈ zw := zm 479 (by rfl) (by rfl)
set_option maxRecDepth 100000 in
theorem zw_480 : Cond.selects RX0 yX0_meets yX0_meets ∈ zw := zm 480 (by rfl) (by rfl)
set_option maxRecDepth 100000 in
theorem zw_481 : Cond.code yX0_meets cX0_meets 3 (some .boolean) ∈ zw := zm 481 (by rfl) (by rfl)
set_option maxRecDepth 100000 in
theorem zw_482 : Cond.methodLink RX4 142 yX4_pop ∈ zw := zm 482 (by rfl) (by rfl)
set_option maxRecDepth 100000 in
theorem zw_484 : Cond.instanceMethod yX4_pop ∈ zw := zm 484 (by rfl) (by rfl)
set_option maxRecDepth 100000 in
theorem zw_485 : Cond.code yX4_pop cX4_pop 2 (some .int) ∈ zw := zm 485 (by rfl) (by rfl)
set_option maxRecDepth 100000 in
theorem zw_486 : Cond.methodLink RX4 145 yX4_popOrReturn ∈ zw := zm 486 (by rfl) (by rfl)
set_option maxRecDepth 100000 in
theorem zw_488 : Cond.instanceMethod yX4_popOrReturn ∈ zw := zm 488 (by rfl) (by rfl)
set_option maxRecDepth 100000 in
theorem zw_489 : Cond.code yX4_popOrReturn cX4_popOrReturn 2 none ∈ zw := zm 489 (by rfl) (by rfl)
set_option maxRecDepth 100000 in
theorem zw_490 : Cond.methodLink RX4 218 yX4_popAccumulatorAndFlags ∈ zw := zm 490 (by rfl) (by rfl)
set_option maxRecDepth 100000 in
theorem zw_492 : Cond.instanceMethod yX4_popAccumulatorAndFlags ∈ zw := zm 492 (by rfl) (by rfl)
set_option maxRecDepth 100000 in
theorem zw_493 : Cond.code yX4_popAccumulatorAndFlags cX4_popAccumulatorAndFlags 2 none ∈ zw := zm 493 (by rfl) (by rfl)
set_option maxRecDepth 100000 in
theorem zw_494 : Cond.methodLink RX4 148 yX4_jumpIf ∈ zw := zm 494 (by rfl) (by rfl)
set_option maxRecDepth 100000 in
theorem zw_496 : Cond.instanceMethod yX4_jumpIf ∈ zw := zm 496 (by rfl) (by rfl)
set_option maxRecDepth 100000 in
theorem zw_497 : Cond.code yX4_jumpIf cX4_jumpIf 3 none ∈ zw := zm 497 (by rfl) (by rfl)
set_option maxRecDepth 100000 in
theorem zw_498 : Cond.methodLink RX4 152 yX4_executeSpecial ∈ zw := zm 498 (by rfl) (by rfl)
set_option maxRecDepth 100000 in
theorem zw_500 : Cond.instanceMethod yX4_executeSpecial ∈ zw := zm 500 (by rfl) (by rfl)
set_option maxRecDepth 100000 in
theorem zw_501 : Cond.code yX4_executeSpecial cX4_executeSpecial 2 none ∈ zw := zm 501 (by rfl) (by rfl)
set_option maxRecDepth 100000 in
theorem zw_502 : Cond.methodLink RX4 227 yX3_write ∈ zw := zm 502 (by rfl) (by rfl)
set_option maxRecDepth 100000 in
theorem zw_503 : Cond.instanceMethod yX3_write ∈ zw := zm 503 (by rfl) (by rfl)
set_option maxRecDepth 100000 in
theorem zw_504 : Cond.selects RX3 yX3_write yX3_write ∈ zw := zm 504 (by rfl) (by rfl)
set_option maxRecDepth 100000 in
theorem zw_505 : Cond.code yX3_write cX3_write 3 none ∈ zw := zm 505 (by rfl) (by rfl)
set_option maxRecDepth 100000 in
theorem zw_506 : Cond.methodLink RX3 31 yX5_command ∈ zw := zm 506 (by rfl) (by rfl)
set_option maxRecDepth 100000 in
theorem zw_507 : Cond.instanceMethod yX5_command ∈ zw := zm 507 (by rfl) (by rfl)
set_option maxRecDepth 100000 in
theorem zw_508 : Cond.selects RX5 yX5_command yX5_command ∈ zw := zm 508 (by rfl) (by rfl)
set_option maxRecDepth 100000 in
theorem zw_509 : Cond.code yX5_command cX5_command 2 none ∈ zw := zm 509 (by rfl) (by rfl)
set_option maxRecDepth 100000 in
theorem zw_510 : Cond.methodLink RX5 23 yJ9_max_7cf53 ∈ zw := zm 510 (by rfl) (by rfl)
set_option maxRecDepth 100000 in
theorem zw_511 : Cond.static yJ9_max_7cf53 ∈ zw := zm 511 (by rfl) (by rfl)
set_option maxRecDepth 100000 in
theorem zw_512 : Cond.code yJ9_max_7cf53 cJ9_max_7cf53 2 (some .int) ∈ zw := zm 512 (by rfl) (by rfl)
set_option maxRecDepth 100000 in
theorem zw_513 : Cond.methodLink RX3 42 yX2_show ∈ zw := zm 513 (by rfl) (by rfl)
set_option maxRecDepth 100000 in
theorem zw_514 : Cond.instanceMethod yX2_show ∈ zw := zm 514 (by rfl) (by rfl)
set_option maxRecDepth 100000 in
theorem zw_515 : Cond.selects RX2 yX2_show yX2_show ∈ zw := zm 515 (by rfl) (by rfl)
set_option maxRecDepth 100000 in
theorem zw_516 : Cond.code yX2_show cX2_show 2 none ∈ zw := zm 516 (by rfl) (by rfl)
set_option maxRecDepth 100000 in
theorem zw_517 : Cond.methodLink RX3 45 yX2_command ∈ zw := zm 517 (by rfl) (by rfl)
set_option maxRecDepth 100000 in
theorem zw_518 : Cond.instanceMethod yX2_command ∈ zw := zm 518 (by rfl) (by rfl)
set_option maxRecDepth 100000 in
theorem zw_519 : Cond.selects RX2 yX2_command yX2_command ∈ zw := zm 519 (by rfl) (by rfl)
set_option maxRecDepth 100000 in
theorem zw_520 : Cond.code yX2_command cX2_command 3 none ∈ zw := zm 520 (by rfl) (by rfl)
set_option maxRecDepth 100000 in
theorem zw_521 : Cond.methodLink RX2 45 yX2_clear ∈ zw := zm 521 (by rfl) (by rfl)
set_option maxRecDepth 100000 in
theorem zw_523 : Cond.instanceMethod yX2_clear ∈ zw := zm 523 (by rfl) (by rfl)
set_option maxRecDepth 100000 in
theorem zw_524 : Cond.code yX2_clear cX2_clear 2 none ∈ zw := zm 524 (by rfl) (by rfl)
set_option maxRecDepth 100000 in
theorem zw_525 : Cond.methodLink RX4 228 yX3_read ∈ zw := zm 525 (by rfl) (by rfl)
set_option maxRecDepth 100000 in
theorem zw_526 : Cond.instanceMethod yX3_read ∈ zw := zm 526 (by rfl) (by rfl)
set_option maxRecDepth 100000 in
theorem zw_527 : Cond.selects RX3 yX3_read yX3_read ∈ zw := zm 527 (by rfl) (by rfl)
set_option maxRecDepth 100000 in
theorem zw_528 : Cond.code yX3_read cX3_read 2 (some .int) ∈ zw := zm 528 (by rfl) (by rfl)
set_option maxRecDepth 100000 in
theorem zw_529 : Cond.methodLink RX3 17 yX5_takeEnded ∈ zw := zm 529 (by rfl) (by rfl)
set_option maxRecDepth 100000 in
theorem zw_530 : Cond.instanceMethod yX5_takeEnded ∈ zw := zm 530 (by rfl) (by rfl)
set_option maxRecDepth 100000 in
theorem zw_531 : Cond.selects RX5 yX5_takeEnded yX5_takeEnded ∈ zw := zm 531 (by rfl) (by rfl)
set_option maxRecDepth 100000 in
theorem zw_532 : Cond.code yX5_takeEnded cX5_takeEnded 2 (some .int) ∈ zw := zm 532 (by rfl) (by rfl)
set_option maxRecDepth 100000 in
theorem zw_533 : Cond.methodLink RX3 23 yX2_takeKey ∈ zw := zm 533 (by rfl) (by rfl)
set_option maxRecDepth 100000 in
theorem zw_534 : Cond.instanceMethod yX2_takeKey ∈ zw := zm 534 (by rfl) (by rfl)
set_option maxRecDepth 100000 in
theorem zw_535 : Cond.selects RX2 yX2_takeKey yX2_takeKey ∈ zw := zm 535 (by rfl) (by rfl)
set_option maxRecDepth 100000 in
theorem zw_536 : Cond.code yX2_takeKey cX2_takeKey 2 (some .int) ∈ zw := zm 536 (by rfl) (by rfl)
set_option maxRecDepth 100000 in
theorem zw_537 : Cond.methodLink RX3 28 yX2_status ∈ zw := zm 537 (by rfl) (by rfl)
set_option maxRecDepth 100000 in
theorem zw_538 : Cond.instanceMethod yX2_status ∈ zw := zm 538 (by rfl) (by rfl)
set_option maxRecDepth 100000 in
theorem zw_539 : Cond.selects RX2 yX2_status yX2_status ∈ zw := zm 539 (by rfl) (by rfl)
set_option maxRecDepth 100000 in
theorem zw_540 : Cond.code yX2_status cX2_status 1 (some .int) ∈ zw := zm 540 (by rfl) (by rfl)
set_option maxRecDepth 100000 in
theorem zw_541 : Cond.methodLink RX4 229 yX4_exchangeWithStack ∈ zw := zm 541 (by rfl) (by rfl)
set_option maxRecDepth 100000 in
theorem zw_543 : Cond.instanceMethod yX4_exchangeWithStack ∈ zw := zm 543 (by rfl) (by rfl)
set_option maxRecDepth 100000 in
theorem zw_544 : Cond.code yX4_exchangeWithStack cX4_exchangeWithStack 2 none ∈ zw := zm 544 (by rfl) (by rfl)
set_option maxRecDepth 100000 in
theorem zw_545 : Cond.methodLink RX4 232 yX4_exchangeWithDe ∈ zw := zm 545 (by rfl) (by rfl)
set_option maxRecDepth 100000 in
theorem zw_547 : Cond.instanceMethod yX4_exchangeWithDe ∈ zw := zm 547 (by rfl) (by rfl)
set_option maxRecDepth 100000 in
theorem zw_548 : Cond.code yX4_exchangeWithDe cX4_exchangeWithDe 2 none ∈ zw := zm 548 (by rfl) (by rfl)
set_option maxRecDepth 100000 in
theorem zw_549 : Cond.methodLink RX4 238 yX1_turnOn ∈ zw := zm 549 (by rfl) (by rfl)
set_option maxRecDepth 100000 in
theorem zw_550 : Cond.instanceMethod yX1_turnOn ∈ zw := zm 550 (by rfl) (by rfl)
set_option maxRecDepth 100000 in
theorem zw_551 : Cond.selects RX1 yX1_turnOn yX1_turnOn ∈ zw := zm 551 (by rfl) (by rfl)
set_option maxRecDepth 100000 in
theorem zw_552 : Cond.code yX1_turnOn cX1_turnOn 1 none ∈ zw := zm 552 (by rfl) (by rfl)
set_option maxRecDepth 100000 in
theorem zw_553 : Cond.methodLink RX4 155 yX4_callIf ∈ zw := zm 553 (by rfl) (by rfl)
set_option maxRecDepth 100000 in
theorem zw_555 : Cond.instanceMethod yX4_callIf ∈ zw := zm 555 (by rfl) (by rfl)
set_option maxRecDepth 100000 in
theorem zw_556 : Cond.code yX4_callIf cX4_callIf 3 none ∈ zw := zm 556 (by rfl) (by rfl)
set_option maxRecDepth 100000 in
theorem zw_557 : Cond.methodLink RX4 158 yX4_pushOrGo ∈ zw := zm 557 (by rfl) (by rfl)
set_option maxRecDepth 100000 in
theorem zw_559 : Cond.instanceMethod yX4_pushOrGo ∈ zw := zm 559 (by rfl) (by rfl)
set_option maxRecDepth 100000 in
theorem zw_560 : Cond.code yX4_pushOrGo cX4_pushOrGo 2 none ∈ zw := zm 560 (by rfl) (by rfl)
set_option maxRecDepth 100000 in
theorem zw_561 : Cond.methodLink RX4 79 yX4_passTicks ∈ zw := zm 561 (by rfl) (by rfl)
set_option maxRecDepth 100000 in
theorem zw_563 : Cond.instanceMethod yX4_passTicks ∈ zw := zm 563 (by rfl) (by rfl)
set_option maxRecDepth 100000 in
theorem zw_564 : Cond.code yX4_passTicks cX4_passTicks 3 none ∈ zw := zm 564 (by rfl) (by rfl)
set_option maxRecDepth 100000 in
theorem zw_565 : Cond.methodLink RX4 82 yX5_tick ∈ zw := zm 565 (by rfl) (by rfl)
set_option maxRecDepth 100000 in
theorem zw_566 : Cond.instanceMethod yX5_tick ∈ zw := zm 566 (by rfl) (by rfl)
set_option maxRecDepth 100000 in
theorem zw_567 : Cond.selects RX5 yX5_tick yX5_tick ∈ zw := zm 567 (by rfl) (by rfl)
set_option maxRecDepth 100000 in
theorem zw_568 : Cond.code yX5_tick cX5_tick 1 (some .boolean) ∈ zw := zm 568 (by rfl) (by rfl)
set_option maxRecDepth 100000 in
theorem zw_569 : Cond.methodLink RX4 91 yX2_tick ∈ zw := zm 569 (by rfl) (by rfl)
set_option maxRecDepth 100000 in
theorem zw_570 : Cond.instanceMethod yX2_tick ∈ zw := zm 570 (by rfl) (by rfl)
set_option maxRecDepth 100000 in
theorem zw_571 : Cond.selects RX2 yX2_tick yX2_tick ∈ zw := zm 571 (by rfl) (by rfl)
set_option maxRecDepth 100000 in
theorem zw_572 : Cond.code yX2_tick cX2_tick 2 none ∈ zw := zm 572 (by rfl) (by rfl)
set_option maxRecDepth 100000 in
theorem zw_573 : Cond.methodLink RX2 51 yX2_scan ∈ zw := zm 573 (by rfl) (by rfl)
set_option maxRecDepth 100000 in
theorem zw_575 : Cond.instanceMethod yX2_scan ∈ zw := zm 575 (by rfl) (by rfl)
set_option maxRecDepth 100000 in
theorem zw_576 : Cond.code yX2_scan cX2_scan 2 none ∈ zw := zm 576 (by rfl) (by rfl)
set_option maxRecDepth 100000 in
theorem zw_577 : Cond.methodLink RX2 55 yX2_enqueue ∈ zw := zm 577 (by rfl) (by rfl)
set_option maxRecDepth 100000 in
theorem zw_579 : Cond.instanceMethod yX2_enqueue ∈ zw := zm 579 (by rfl) (by rfl)
set_option maxRecDepth 100000 in
theorem zw_580 : Cond.code yX2_enqueue cX2_enqueue 2 none ∈ zw := zm 580 (by rfl) (by rfl)
set_option maxRecDepth 100000 in
theorem zw_581 : Cond.methodLink RL 52 yL_steps ∈ zw := zm 581 (by rfl) (by rfl)
set_option maxRecDepth 100000 in
theorem zw_582 : Cond.static yL_steps ∈ zw := zm 582 (by rfl) (by rfl)
set_option maxRecDepth 100000 in
theorem zw_583 : Cond.codeWith yL_steps cL_steps 4 (some .int) [(0, 9, 12, 13)] ∈ zw := zm 583 (by rfl) (by rfl)
set_option maxRecDepth 100000 in
theorem zw_584 : Cond.classLink RL 13 "java/lang/IllegalArgumentException" ∈ zw := zm 584 (by rfl) (by rfl)
set_option maxRecDepth 100000 in
theorem zw_585 : Cond.methodLink RL 7 yX6_steps ∈ zw := zm 585 (by rfl) (by rfl)
set_option maxRecDepth 100000 in
theorem zw_586 : Cond.instanceMethod yX6_steps ∈ zw := zm 586 (by rfl) (by rfl)
set_option maxRecDepth 100000 in
theorem zw_587 : Cond.selects RX6 yX6_steps yX6_steps ∈ zw := zm 587 (by rfl) (by rfl)
set_option maxRecDepth 100000 in
theorem zw_588 : Cond.code yX6_steps cX6_steps 4 (some .int) ∈ zw := zm 588 (by rfl) (by rfl)
set_option maxRecDepth 100000 in
theorem zw_589 : Cond.classLink RX6 47 "java/lang/IllegalArgumentException" ∈ zw := zm 589 (by rfl) (by rfl)
set_option maxRecDepth 100000 in
theorem zw_590 : Cond.instantiable "java/lang/IllegalArgumentException" 6 ∈ zw := zm 590 (by rfl) (by rfl)
set_option maxRecDepth 100000 in
theorem zw_610 : Cond.fieldLink "java/lang/Throwable" 198 "java/lang/Throwable" "backtrace" "Ljava/lang/Object;" ∈ zw := zm 610 (by rfl) (by rfl)
set_option maxRecDepth 100000 in
theorem zw_614 : Cond.methodLink "java/lang/Throwable" 1 objectInit ∈ zw := zm 614 (by rfl) (by rfl)
set_option maxRecDepth 100000 in
theorem zw_615 : Cond.fieldLink "java/lang/Throwable" 13 "java/lang/Throwable" "UNASSIGNED_STACK" "[Ljava/lang/StackTraceElement;" ∈ zw := zm 615 (by rfl) (by rfl)
set_option maxRecDepth 100000 in
theorem zw_617 : Cond.fieldLink "java/lang/Throwable" 20 "java/lang/Throwable" "SUPPRESSED_SENTINEL" "Ljava/util/List;" ∈ zw := zm 617 (by rfl) (by rfl)
set_option maxRecDepth 100000 in
theorem zw_627 : Cond.instantiable "java/lang/Throwable" 6 ∈ zw := zm 627 (by rfl) (by rfl)
set_option maxRecDepth 100000 in
theorem zw_643 : Cond.fieldLink "java/lang/Throwable" 31 "java/lang/Throwable" "detailMessage" "Ljava/lang/String;" ∈ zw := zm 643 (by rfl) (by rfl)
set_option maxRecDepth 100000 in
theorem zw_644 : Cond.fieldLink "java/lang/Throwable" 7 "java/lang/Throwable" "cause" "Ljava/lang/Throwable;" ∈ zw := zm 644 (by rfl) (by rfl)
set_option maxRecDepth 100000 in
theorem zw_645 : Cond.fieldLink "java/lang/Throwable" 17 "java/lang/Throwable" "stackTrace" "[Ljava/lang/StackTraceElement;" ∈ zw := zm 645 (by rfl) (by rfl)
set_option maxRecDepth 100000 in
theorem zw_646 : Cond.fieldLink "java/lang/Throwable" 24 "java/lang/Throwable" "suppressedExceptions" "Ljava/util/List;" ∈ zw := zm 646 (by rfl) (by rfl)
set_option maxRecDepth 100000 in
theorem zw_655 : Cond.arrayClass .byte ∈ zw := zm 655 (by rfl) (by rfl)
set_option maxRecDepth 100000 in
theorem zw_656 : Cond.methodLink RL 58 yL_key ∈ zw := zm 656 (by rfl) (by rfl)
set_option maxRecDepth 100000 in
theorem zw_657 : Cond.static yL_key ∈ zw := zm 657 (by rfl) (by rfl)
set_option maxRecDepth 100000 in
theorem zw_658 : Cond.codeWith yL_key cL_key 5 (some .int) [(0, 17, 20, 19)] ∈ zw := zm 658 (by rfl) (by rfl)
set_option maxRecDepth 100000 in
theorem zw_659 : Cond.classLink RL 19 "java/lang/IndexOutOfBoundsException" ∈ zw := zm 659 (by rfl) (by rfl)
set_option maxRecDepth 100000 in
theorem zw_660 : Cond.methodLink RL 15 yX6_key ∈ zw := zm 660 (by rfl) (by rfl)
set_option maxRecDepth 100000 in
theorem zw_661 : Cond.instanceMethod yX6_key ∈ zw := zm 661 (by rfl) (by rfl)
set_option maxRecDepth 100000 in
theorem zw_662 : Cond.selects RX6 yX6_key yX6_key ∈ zw := zm 662 (by rfl) (by rfl)
set_option maxRecDepth 100000 in
theorem zw_663 : Cond.code yX6_key cX6_key 4 (some .boolean) ∈ zw := zm 663 (by rfl) (by rfl)
set_option maxRecDepth 100000 in
theorem zw_664 : Cond.classLink RX6 54 "java/lang/IndexOutOfBoundsException" ∈ zw := zm 664 (by rfl) (by rfl)
set_option maxRecDepth 100000 in
theorem zw_665 : Cond.instantiable "java/lang/IndexOutOfBoundsException" 6 ∈ zw := zm 665 (by rfl) (by rfl)
set_option maxRecDepth 100000 in
theorem zw_680 : Cond.methodLink RL 62 yL_line ∈ zw := zm 680 (by rfl) (by rfl)
set_option maxRecDepth 100000 in
theorem zw_681 : Cond.static yL_line ∈ zw := zm 681 (by rfl) (by rfl)
set_option maxRecDepth 100000 in
theorem zw_682 : Cond.codeWith yL_line cL_line 5 (some .int) [(0, 17, 20, 19)] ∈ zw := zm 682 (by rfl) (by rfl)
set_option maxRecDepth 100000 in
theorem zw_683 : Cond.methodLink RL 21 yX6_line ∈ zw := zm 683 (by rfl) (by rfl)
set_option maxRecDepth 100000 in
theorem zw_684 : Cond.instanceMethod yX6_line ∈ zw := zm 684 (by rfl) (by rfl)
set_option maxRecDepth 100000 in
theorem zw_685 : Cond.selects RX6 yX6_line yX6_line ∈ zw := zm 685 (by rfl) (by rfl)
set_option maxRecDepth 100000 in
theorem zw_686 : Cond.code yX6_line cX6_line 4 (some .boolean) ∈ zw := zm 686 (by rfl) (by rfl)
set_option maxRecDepth 100000 in
theorem zw_688 : Cond.methodLink RL 68 yL_about ∈ zw := zm 688 (by rfl) (by rfl)
set_option maxRecDepth 100000 in
theorem zw_689 : Cond.static yL_about ∈ zw := zm 689 (by rfl) (by rfl)
set_option maxRecDepth 100000 in
theorem zw_690 : Cond.codeWith yL_about cL_about 4 (some .int) [(0, 9, 12, 19)] ∈ zw := zm 690 (by rfl) (by rfl)
set_option maxRecDepth 100000 in
theorem zw_691 : Cond.methodLink RL 24 yX6_about ∈ zw := zm 691 (by rfl) (by rfl)
set_option maxRecDepth 100000 in
theorem zw_692 : Cond.instanceMethod yX6_about ∈ zw := zm 692 (by rfl) (by rfl)
set_option maxRecDepth 100000 in
theorem zw_693 : Cond.selects RX6 yX6_about yX6_about ∈ zw := zm 693 (by rfl) (by rfl)
set_option maxRecDepth 100000 in
theorem zw_694 : Cond.code yX6_about cX6_about 2 (some .int) ∈ zw := zm 694 (by rfl) (by rfl)
set_option maxRecDepth 100000 in
theorem zw_695 : Cond.methodLink RX6 106 yX2_status ∈ zw := zm 695 (by rfl) (by rfl)
set_option maxRecDepth 100000 in
theorem zw_697 : Cond.methodLink RL 71 yL_shown ∈ zw := zm 697 (by rfl) (by rfl)
set_option maxRecDepth 100000 in
theorem zw_698 : Cond.static yL_shown ∈ zw := zm 698 (by rfl) (by rfl)
set_option maxRecDepth 100000 in
theorem zw_699 : Cond.codeWith yL_shown cL_shown 4 (some .int) [(0, 9, 12, 19)] ∈ zw := zm 699 (by rfl) (by rfl)
set_option maxRecDepth 100000 in
theorem zw_700 : Cond.methodLink RL 27 yX6_shown ∈ zw := zm 700 (by rfl) (by rfl)
set_option maxRecDepth 100000 in
theorem zw_701 : Cond.instanceMethod yX6_shown ∈ zw := zm 701 (by rfl) (by rfl)
set_option maxRecDepth 100000 in
theorem zw_702 : Cond.selects RX6 yX6_shown yX6_shown ∈ zw := zm 702 (by rfl) (by rfl)
set_option maxRecDepth 100000 in
theorem zw_703 : Cond.code yX6_shown cX6_shown 2 (some .int) ∈ zw := zm 703 (by rfl) (by rfl)
set_option maxRecDepth 100000 in
theorem zw_705 : Cond.methodLink RL 74 yL_set ∈ zw := zm 705 (by rfl) (by rfl)
set_option maxRecDepth 100000 in
theorem zw_706 : Cond.static yL_set ∈ zw := zm 706 (by rfl) (by rfl)
set_option maxRecDepth 100000 in
theorem zw_707 : Cond.codeWith yL_set cL_set 4 (some .int) [(0, 6, 9, 19)] ∈ zw := zm 707 (by rfl) (by rfl)
set_option maxRecDepth 100000 in
theorem zw_708 : Cond.methodLink RL 30 yX6_set ∈ zw := zm 708 (by rfl) (by rfl)
set_option maxRecDepth 100000 in
theorem zw_709 : Cond.instanceMethod yX6_set ∈ zw := zm 709 (by rfl) (by rfl)
set_option maxRecDepth 100000 in
theorem zw_710 : Cond.selects RX6 yX6_set yX6_set ∈ zw := zm 710 (by rfl) (by rfl)
set_option maxRecDepth 100000 in
theorem zw_711 : Cond.code yX6_set cX6_set 3 none ∈ zw := zm 711 (by rfl) (by rfl)
set_option maxRecDepth 100000 in
theorem zw_712 : Cond.constant RX6 116 (65535) ∈ zw := zm 712 (by rfl) (by rfl)
set_option maxRecDepth 100000 in
theorem zw_714 : Cond.classLink RL 35 RX7 ∈ zw := zm 714 (by rfl) (by rfl)
set_option maxRecDepth 100000 in
theorem zw_715 : Cond.instantiable RX7 30 ∈ zw := zm 715 (by rfl) (by rfl)
set_option maxRecDepth 100000 in
theorem zw_716 : Cond.methodLink RL 37 yX7_init ∈ zw := zm 716 (by rfl) (by rfl)
set_option maxRecDepth 100000 in
theorem zw_717 : Cond.instanceMethod yX7_init ∈ zw := zm 717 (by rfl) (by rfl)
set_option maxRecDepth 100000 in
theorem zw_718 : Cond.code yX7_init cX7_init 1 none ∈ zw := zm 718 (by rfl) (by rfl)
set_option maxRecDepth 100000 in
theorem zw_719 : Cond.methodLink RX7 1 objectInit ∈ zw := zm 719 (by rfl) (by rfl)
set_option maxRecDepth 100000 in
theorem zw_720 : Cond.fieldLink RX7 7 "KeyboardKitModel" "memory" "[I" ∈ zw := zm 720 (by rfl) (by rfl)
set_option maxRecDepth 100000 in
theorem zw_721 : Cond.fieldLink RX7 13 "KeyboardKitModel" "register" "[I" ∈ zw := zm 721 (by rfl) (by rfl)
set_option maxRecDepth 100000 in
theorem zw_722 : Cond.fieldLink RX7 64 "KeyboardKitModel" "sp" "I" ∈ zw := zm 722 (by rfl) (by rfl)
set_option maxRecDepth 100000 in
theorem zw_723 : Cond.fieldLink RX7 45 "KeyboardKitModel" "pc" "I" ∈ zw := zm 723 (by rfl) (by rfl)
set_option maxRecDepth 100000 in
theorem zw_724 : Cond.fieldLink RX7 42 "KeyboardKitModel" "ticks" "I" ∈ zw := zm 724 (by rfl) (by rfl)
set_option maxRecDepth 100000 in
theorem zw_725 : Cond.fieldLink RX7 166 "KeyboardKitModel" "on" "Z" ∈ zw := zm 725 (by rfl) (by rfl)
set_option maxRecDepth 100000 in
theorem zw_726 : Cond.fieldLink RX7 199 "KeyboardKitModel" "soon" "Z" ∈ zw := zm 726 (by rfl) (by rfl)
set_option maxRecDepth 100000 in
theorem zw_727 : Cond.fieldLink RX7 220 "KeyboardKitModel" "halts" "Z" ∈ zw := zm 727 (by rfl) (by rfl)
set_option maxRecDepth 100000 in
theorem zw_728 : Cond.fieldLink RX7 16 "KeyboardKitModel" "masks" "I" ∈ zw := zm 728 (by rfl) (by rfl)
set_option maxRecDepth 100000 in
theorem zw_729 : Cond.fieldLink RX7 142 "KeyboardKitModel" "ended" "Z" ∈ zw := zm 729 (by rfl) (by rfl)
set_option maxRecDepth 100000 in
theorem zw_730 : Cond.fieldLink RX7 20 "KeyboardKitModel" "lines" "[Z" ∈ zw := zm 730 (by rfl) (by rfl)
set_option maxRecDepth 100000 in
theorem zw_731 : Cond.fieldLink RX7 154 "KeyboardKitModel" "serial" "I" ∈ zw := zm 731 (by rfl) (by rfl)
set_option maxRecDepth 100000 in
theorem zw_732 : Cond.fieldLink RX7 117 "KeyboardKitModel" "load" "I" ∈ zw := zm 732 (by rfl) (by rfl)
set_option maxRecDepth 100000 in
theorem zw_733 : Cond.fieldLink RX7 129 "KeyboardKitModel" "left" "I" ∈ zw := zm 733 (by rfl) (by rfl)
set_option maxRecDepth 100000 in
theorem zw_734 : Cond.fieldLink RX7 132 "KeyboardKitModel" "length" "I" ∈ zw := zm 734 (by rfl) (by rfl)
set_option maxRecDepth 100000 in
theorem zw_735 : Cond.fieldLink RX7 135 "KeyboardKitModel" "again" "Z" ∈ zw := zm 735 (by rfl) (by rfl)
set_option maxRecDepth 100000 in
theorem zw_736 : Cond.fieldLink RX7 120 "KeyboardKitModel" "runs" "Z" ∈ zw := zm 736 (by rfl) (by rfl)
set_option maxRecDepth 100000 in
theorem zw_737 : Cond.fieldLink RX7 123 "KeyboardKitModel" "stops" "Z" ∈ zw := zm 737 (by rfl) (by rfl)
set_option maxRecDepth 100000 in
theorem zw_738 : Cond.fieldLink RX7 111 "KeyboardKitModel" "told" "Z" ∈ zw := zm 738 (by rfl) (by rfl)
set_option maxRecDepth 100000 in
theorem zw_739 : Cond.fieldLink RX7 148 "KeyboardKitModel" "gone" "I" ∈ zw := zm 739 (by rfl) (by rfl)
set_option maxRecDepth 100000 in
theorem zw_740 : Cond.fieldLink RX7 24 "KeyboardKitModel" "down" "[Z" ∈ zw := zm 740 (by rfl) (by rfl)
set_option maxRecDepth 100000 in
theorem zw_741 : Cond.fieldLink RX7 27 "KeyboardKitModel" "was" "[Z" ∈ zw := zm 741 (by rfl) (by rfl)
set_option maxRecDepth 100000 in
theorem zw_742 : Cond.fieldLink RX7 30 "KeyboardKitModel" "counted" "[Z" ∈ zw := zm 742 (by rfl) (by rfl)
set_option maxRecDepth 100000 in
theorem zw_743 : Cond.fieldLink RX7 101 "KeyboardKitModel" "keys" "I" ∈ zw := zm 743 (by rfl) (by rfl)
set_option maxRecDepth 100000 in
theorem zw_744 : Cond.fieldLink RX7 33 "KeyboardKitModel" "queue" "[I" ∈ zw := zm 744 (by rfl) (by rfl)
set_option maxRecDepth 100000 in
theorem zw_745 : Cond.fieldLink RX7 104 "KeyboardKitModel" "under" "Z" ∈ zw := zm 745 (by rfl) (by rfl)
set_option maxRecDepth 100000 in
theorem zw_746 : Cond.fieldLink RX7 108 "KeyboardKitModel" "over" "Z" ∈ zw := zm 746 (by rfl) (by rfl)
set_option maxRecDepth 100000 in
theorem zw_747 : Cond.fieldLink RX7 139 "KeyboardKitModel" "place" "I" ∈ zw := zm 747 (by rfl) (by rfl)
set_option maxRecDepth 100000 in
theorem zw_748 : Cond.fieldLink RX7 36 "KeyboardKitModel" "display" "[I" ∈ zw := zm 748 (by rfl) (by rfl)
set_option maxRecDepth 100000 in
theorem zw_749 : Cond.fieldLink RX7 39 "KeyboardKitModel" "thrown" "I" ∈ zw := zm 749 (by rfl) (by rfl)
set_option maxRecDepth 100000 in
theorem zw_811 : Cond.methodLink RL 65 yX7_thrown ∈ zw := zm 811 (by rfl) (by rfl)
set_option maxRecDepth 100000 in
theorem zw_812 : Cond.instanceMethod yX7_thrown ∈ zw := zm 812 (by rfl) (by rfl)
set_option maxRecDepth 100000 in
theorem zw_813 : Cond.selects RX7 yX7_thrown yX7_thrown ∈ zw := zm 813 (by rfl) (by rfl)
set_option maxRecDepth 100000 in
theorem zw_814 : Cond.code yX7_thrown cX7_thrown 1 (some .int) ∈ zw := zm 814 (by rfl) (by rfl)
set_option maxRecDepth 100000 in
theorem zw_815 : Cond.methodLink RL 42 yX7_poke ∈ zw := zm 815 (by rfl) (by rfl)
set_option maxRecDepth 100000 in
theorem zw_816 : Cond.instanceMethod yX7_poke ∈ zw := zm 816 (by rfl) (by rfl)
set_option maxRecDepth 100000 in
theorem zw_817 : Cond.selects RX7 yX7_poke yX7_poke ∈ zw := zm 817 (by rfl) (by rfl)
set_option maxRecDepth 100000 in
theorem zw_818 : Cond.code yX7_poke cX7_poke 4 (some .int) ∈ zw := zm 818 (by rfl) (by rfl)
set_option maxRecDepth 100000 in
theorem zw_819 : Cond.methodLink RL 46 yX7_peek ∈ zw := zm 819 (by rfl) (by rfl)
set_option maxRecDepth 100000 in
theorem zw_820 : Cond.instanceMethod yX7_peek ∈ zw := zm 820 (by rfl) (by rfl)
set_option maxRecDepth 100000 in
theorem zw_821 : Cond.selects RX7 yX7_peek yX7_peek ∈ zw := zm 821 (by rfl) (by rfl)
set_option maxRecDepth 100000 in
theorem zw_822 : Cond.code yX7_peek cX7_peek 2 (some .int) ∈ zw := zm 822 (by rfl) (by rfl)
set_option maxRecDepth 100000 in
theorem zw_823 : Cond.methodLink RL 51 yX7_step ∈ zw := zm 823 (by rfl) (by rfl)
set_option maxRecDepth 100000 in
theorem zw_824 : Cond.instanceMethod yX7_step ∈ zw := zm 824 (by rfl) (by rfl)
set_option maxRecDepth 100000 in
theorem zw_825 : Cond.selects RX7 yX7_step yX7_step ∈ zw := zm 825 (by rfl) (by rfl)
set_option maxRecDepth 100000 in
theorem zw_826 : Cond.code yX7_step cX7_step 1 (some .int) ∈ zw := zm 826 (by rfl) (by rfl)
set_option maxRecDepth 100000 in
theorem zw_827 : Cond.methodLink RX7 232 yX7_once ∈ zw := zm 827 (by rfl) (by rfl)
set_option maxRecDepth 100000 in
theorem zw_829 : Cond.instanceMethod yX7_once ∈ zw := zm 829 (by rfl) (by rfl)
set_option maxRecDepth 100000 in
theorem zw_830 : Cond.code yX7_once cX7_once 3 (some .int) ∈ zw := zm 830 (by rfl) (by rfl)
set_option maxRecDepth 100000 in
theorem zw_831 : Cond.methodLink RX7 169 yX7_wanted ∈ zw := zm 831 (by rfl) (by rfl)
set_option maxRecDepth 100000 in
theorem zw_833 : Cond.instanceMethod yX7_wanted ∈ zw := zm 833 (by rfl) (by rfl)
set_option maxRecDepth 100000 in
theorem zw_834 : Cond.code yX7_wanted cX7_wanted 1 (some .int) ∈ zw := zm 834 (by rfl) (by rfl)
set_option maxRecDepth 100000 in
theorem zw_835 : Cond.methodLink RX7 190 yX7_call ∈ zw := zm 835 (by rfl) (by rfl)
set_option maxRecDepth 100000 in
theorem zw_837 : Cond.instanceMethod yX7_call ∈ zw := zm 837 (by rfl) (by rfl)
set_option maxRecDepth 100000 in
theorem zw_838 : Cond.code yX7_call cX7_call 2 none ∈ zw := zm 838 (by rfl) (by rfl)
set_option maxRecDepth 100000 in
theorem zw_839 : Cond.methodLink RX7 67 yX7_push ∈ zw := zm 839 (by rfl) (by rfl)
set_option maxRecDepth 100000 in
theorem zw_841 : Cond.instanceMethod yX7_push ∈ zw := zm 841 (by rfl) (by rfl)
set_option maxRecDepth 100000 in
theorem zw_842 : Cond.code yX7_push cX7_push 2 none ∈ zw := zm 842 (by rfl) (by rfl)
set_option maxRecDepth 100000 in
theorem zw_843 : Cond.constant RX7 52 (65535) ∈ zw := zm 843 (by rfl) (by rfl)
set_option maxRecDepth 100000 in
theorem zw_844 : Cond.methodLink RX7 60 yX7_write ∈ zw := zm 844 (by rfl) (by rfl)
set_option maxRecDepth 100000 in
theorem zw_846 : Cond.instanceMethod yX7_write ∈ zw := zm 846 (by rfl) (by rfl)
set_option maxRecDepth 100000 in
theorem zw_847 : Cond.code yX7_write cX7_write 3 none ∈ zw := zm 847 (by rfl) (by rfl)
set_option maxRecDepth 100000 in
theorem zw_848 : Cond.methodLink RX7 226 yX7_instruction ∈ zw := zm 848 (by rfl) (by rfl)
set_option maxRecDepth 100000 in
theorem zw_850 : Cond.instanceMethod yX7_instruction ∈ zw := zm 850 (by rfl) (by rfl)
set_option maxRecDepth 100000 in
theorem zw_851 : Cond.code yX7_instruction cX7_instruction 5 none ∈ zw := zm 851 (by rfl) (by rfl)
set_option maxRecDepth 100000 in
theorem zw_852 : Cond.methodLink RX7 53 yX7_fetch ∈ zw := zm 852 (by rfl) (by rfl)
set_option maxRecDepth 100000 in
theorem zw_854 : Cond.instanceMethod yX7_fetch ∈ zw := zm 854 (by rfl) (by rfl)
set_option maxRecDepth 100000 in
theorem zw_855 : Cond.code yX7_fetch cX7_fetch 2 (some .int) ∈ zw := zm 855 (by rfl) (by rfl)
set_option maxRecDepth 100000 in
theorem zw_856 : Cond.methodLink RX7 48 yX7_read ∈ zw := zm 856 (by rfl) (by rfl)
set_option maxRecDepth 100000 in
theorem zw_858 : Cond.instanceMethod yX7_read ∈ zw := zm 858 (by rfl) (by rfl)
set_option maxRecDepth 100000 in
theorem zw_859 : Cond.code yX7_read cX7_read 2 (some .int) ∈ zw := zm 859 (by rfl) (by rfl)
set_option maxRecDepth 100000 in
theorem zw_860 : Cond.methodLink RX7 217 yX7_first ∈ zw := zm 860 (by rfl) (by rfl)
set_option maxRecDepth 100000 in
theorem zw_862 : Cond.instanceMethod yX7_first ∈ zw := zm 862 (by rfl) (by rfl)
set_option maxRecDepth 100000 in
theorem zw_863 : Cond.code yX7_first cX7_first 3 none ∈ zw := zm 863 (by rfl) (by rfl)
set_option maxRecDepth 100000 in
theorem zw_864 : Cond.methodLink RX7 172 yX7_setMask ∈ zw := zm 864 (by rfl) (by rfl)
set_option maxRecDepth 100000 in
theorem zw_866 : Cond.instanceMethod yX7_setMask ∈ zw := zm 866 (by rfl) (by rfl)
set_option maxRecDepth 100000 in
theorem zw_867 : Cond.code yX7_setMask cX7_setMask 2 none ∈ zw := zm 867 (by rfl) (by rfl)
set_option maxRecDepth 100000 in
theorem zw_868 : Cond.methodLink RX7 175 yX7_pairOf ∈ zw := zm 868 (by rfl) (by rfl)
set_option maxRecDepth 100000 in
theorem zw_870 : Cond.instanceMethod yX7_pairOf ∈ zw := zm 870 (by rfl) (by rfl)
set_option maxRecDepth 100000 in
theorem zw_871 : Cond.code yX7_pairOf cX7_pairOf 5 none ∈ zw := zm 871 (by rfl) (by rfl)
set_option maxRecDepth 100000 in
theorem zw_872 : Cond.methodLink RX7 157 yX7_pair ∈ zw := zm 872 (by rfl) (by rfl)
set_option maxRecDepth 100000 in
theorem zw_874 : Cond.instanceMethod yX7_pair ∈ zw := zm 874 (by rfl) (by rfl)
set_option maxRecDepth 100000 in
theorem zw_875 : Cond.code yX7_pair cX7_pair 2 (some .int) ∈ zw := zm 875 (by rfl) (by rfl)
set_option maxRecDepth 100000 in
theorem zw_876 : Cond.methodLink RX7 160 yX7_fetchTwo ∈ zw := zm 876 (by rfl) (by rfl)
set_option maxRecDepth 100000 in
theorem zw_878 : Cond.instanceMethod yX7_fetchTwo ∈ zw := zm 878 (by rfl) (by rfl)
set_option maxRecDepth 100000 in
theorem zw_879 : Cond.code yX7_fetchTwo cX7_fetchTwo 2 (some .int) ∈ zw := zm 879 (by rfl) (by rfl)
set_option maxRecDepth 100000 in
theorem zw_880 : Cond.methodLink RX7 163 yX7_putPair ∈ zw := zm 880 (by rfl) (by rfl)
set_option maxRecDepth 100000 in
theorem zw_882 : Cond.instanceMethod yX7_putPair ∈ zw := zm 882 (by rfl) (by rfl)
set_option maxRecDepth 100000 in
theorem zw_883 : Cond.code yX7_putPair cX7_putPair 3 none ∈ zw := zm 883 (by rfl) (by rfl)
set_option maxRecDepth 100000 in
theorem zw_884 : Cond.methodLink RX7 57 yX7_hl ∈ zw := zm 884 (by rfl) (by rfl)
set_option maxRecDepth 100000 in
theorem zw_886 : Cond.instanceMethod yX7_hl ∈ zw := zm 886 (by rfl) (by rfl)
set_option maxRecDepth 100000 in
theorem zw_887 : Cond.code yX7_hl cX7_hl 1 (some .int) ∈ zw := zm 887 (by rfl) (by rfl)
set_option maxRecDepth 100000 in
theorem zw_888 : Cond.methodLink RX7 71 yX7_flag ∈ zw := zm 888 (by rfl) (by rfl)
set_option maxRecDepth 100000 in
theorem zw_890 : Cond.instanceMethod yX7_flag ∈ zw := zm 890 (by rfl) (by rfl)
set_option maxRecDepth 100000 in
theorem zw_891 : Cond.code yX7_flag cX7_flag 3 none ∈ zw := zm 891 (by rfl) (by rfl)
set_option maxRecDepth 100000 in
theorem zw_892 : Cond.methodLink RX7 178 yX7_memoryOf ∈ zw := zm 892 (by rfl) (by rfl)
set_option maxRecDepth 100000 in
theorem zw_894 : Cond.instanceMethod yX7_memoryOf ∈ zw := zm 894 (by rfl) (by rfl)
set_option maxRecDepth 100000 in
theorem zw_895 : Cond.code yX7_memoryOf cX7_memoryOf 3 none ∈ zw := zm 895 (by rfl) (by rfl)
set_option maxRecDepth 100000 in
theorem zw_896 : Cond.methodLink RX7 181 yX7_stepRegister ∈ zw := zm 896 (by rfl) (by rfl)
set_option maxRecDepth 100000 in
theorem zw_898 : Cond.instanceMethod yX7_stepRegister ∈ zw := zm 898 (by rfl) (by rfl)
set_option maxRecDepth 100000 in
theorem zw_899 : Cond.code yX7_stepRegister cX7_stepRegister 6 none ∈ zw := zm 899 (by rfl) (by rfl)
set_option maxRecDepth 100000 in
theorem zw_900 : Cond.methodLink RX7 78 yX7_is ∈ zw := zm 900 (by rfl) (by rfl)
set_option maxRecDepth 100000 in
theorem zw_902 : Cond.instanceMethod yX7_is ∈ zw := zm 902 (by rfl) (by rfl)
set_option maxRecDepth 100000 in
theorem zw_903 : Cond.code yX7_is cX7_is 2 (some .boolean) ∈ zw := zm 903 (by rfl) (by rfl)
set_option maxRecDepth 100000 in
theorem zw_904 : Cond.methodLink RX7 92 yX7_get ∈ zw := zm 904 (by rfl) (by rfl)
set_option maxRecDepth 100000 in
theorem zw_906 : Cond.instanceMethod yX7_get ∈ zw := zm 906 (by rfl) (by rfl)
set_option maxRecDepth 100000 in
theorem zw_907 : Cond.code yX7_get cX7_get 2 (some .int) ∈ zw := zm 907 (by rfl) (by rfl)
set_option maxRecDepth 100000 in
theorem zw_908 : Cond.methodLink RX7 82 yX7_sum ∈ zw := zm 908 (by rfl) (by rfl)
set_option maxRecDepth 100000 in
theorem zw_910 : Cond.instanceMethod yX7_sum ∈ zw := zm 910 (by rfl) (by rfl)
set_option maxRecDepth 100000 in
theorem zw_911 : Cond.code yX7_sum cX7_sum 6 (some .int) ∈ zw := zm 911 (by rfl) (by rfl)
set_option maxRecDepth 100000 in
theorem zw_912 : Cond.methodLink RX7 75 yX7_mark ∈ zw := zm 912 (by rfl) (by rfl)
set_option maxRecDepth 100000 in
theorem zw_914 : Cond.instanceMethod yX7_mark ∈ zw := zm 914 (by rfl) (by rfl)
set_option maxRecDepth 100000 in
theorem zw_915 : Cond.code yX7_mark cX7_mark 4 none ∈ zw := zm 915 (by rfl) (by rfl)
set_option maxRecDepth 100000 in
theorem zw_916 : Cond.methodLink RX7 86 yX7_difference ∈ zw := zm 916 (by rfl) (by rfl)
set_option maxRecDepth 100000 in
theorem zw_918 : Cond.instanceMethod yX7_difference ∈ zw := zm 918 (by rfl) (by rfl)
set_option maxRecDepth 100000 in
theorem zw_919 : Cond.code yX7_difference cX7_difference 5 (some .int) ∈ zw := zm 919 (by rfl) (by rfl)
set_option maxRecDepth 100000 in
theorem zw_920 : Cond.methodLink RX7 95 yX7_put ∈ zw := zm 920 (by rfl) (by rfl)
set_option maxRecDepth 100000 in
theorem zw_922 : Cond.instanceMethod yX7_put ∈ zw := zm 922 (by rfl) (by rfl)
set_option maxRecDepth 100000 in
theorem zw_923 : Cond.code yX7_put cX7_put 3 none ∈ zw := zm 923 (by rfl) (by rfl)
set_option maxRecDepth 100000 in
theorem zw_924 : Cond.methodLink RX7 184 yX7_turn ∈ zw := zm 924 (by rfl) (by rfl)
set_option maxRecDepth 100000 in
theorem zw_926 : Cond.instanceMethod yX7_turn ∈ zw := zm 926 (by rfl) (by rfl)
set_option maxRecDepth 100000 in
theorem zw_927 : Cond.code yX7_turn cX7_turn 4 none ∈ zw := zm 927 (by rfl) (by rfl)
set_option maxRecDepth 100000 in
theorem zw_928 : Cond.methodLink RX7 98 yX7_decimal ∈ zw := zm 928 (by rfl) (by rfl)
set_option maxRecDepth 100000 in
theorem zw_930 : Cond.instanceMethod yX7_decimal ∈ zw := zm 930 (by rfl) (by rfl)
set_option maxRecDepth 100000 in
theorem zw_931 : Cond.code yX7_decimal cX7_decimal 4 none ∈ zw := zm 931 (by rfl) (by rfl)
set_option maxRecDepth 100000 in
theorem zw_932 : Cond.methodLink RX7 214 yX7_operate ∈ zw := zm 932 (by rfl) (by rfl)
set_option maxRecDepth 100000 in
theorem zw_934 : Cond.instanceMethod yX7_operate ∈ zw := zm 934 (by rfl) (by rfl)
set_option maxRecDepth 100000 in
theorem zw_935 : Cond.code yX7_operate cX7_operate 6 none ∈ zw := zm 935 (by rfl) (by rfl)
set_option maxRecDepth 100000 in
theorem zw_936 : Cond.methodLink RX7 89 yX7_logic ∈ zw := zm 936 (by rfl) (by rfl)
set_option maxRecDepth 100000 in
theorem zw_938 : Cond.instanceMethod yX7_logic ∈ zw := zm 938 (by rfl) (by rfl)
set_option maxRecDepth 100000 in
theorem zw_939 : Cond.code yX7_logic cX7_logic 5 (some .int) ∈ zw := zm 939 (by rfl) (by rfl)
set_option maxRecDepth 100000 in
theorem zw_940 : Cond.methodLink RX7 223 yX7_last ∈ zw := zm 940 (by rfl) (by rfl)
set_option maxRecDepth 100000 in
theorem zw_942 : Cond.instanceMethod yX7_last ∈ zw := zm 942 (by rfl) (by rfl)
set_option maxRecDepth 100000 in
theorem zw_943 : Cond.code yX7_last cX7_last 5 none ∈ zw := zm 943 (by rfl) (by rfl)
set_option maxRecDepth 100000 in
theorem zw_944 : Cond.methodLink RX7 202 yX7_holds ∈ zw := zm 944 (by rfl) (by rfl)
set_option maxRecDepth 100000 in
theorem zw_946 : Cond.instanceMethod yX7_holds ∈ zw := zm 946 (by rfl) (by rfl)
set_option maxRecDepth 100000 in
theorem zw_947 : Cond.code yX7_holds cX7_holds 3 (some .boolean) ∈ zw := zm 947 (by rfl) (by rfl)
set_option maxRecDepth 100000 in
theorem zw_948 : Cond.methodLink RX7 187 yX7_pop ∈ zw := zm 948 (by rfl) (by rfl)
set_option maxRecDepth 100000 in
theorem zw_950 : Cond.instanceMethod yX7_pop ∈ zw := zm 950 (by rfl) (by rfl)
set_option maxRecDepth 100000 in
theorem zw_951 : Cond.code yX7_pop cX7_pop 3 (some .int) ∈ zw := zm 951 (by rfl) (by rfl)
set_option maxRecDepth 100000 in
theorem zw_952 : Cond.methodLink RX7 205 yX7_popOf ∈ zw := zm 952 (by rfl) (by rfl)
set_option maxRecDepth 100000 in
theorem zw_954 : Cond.instanceMethod yX7_popOf ∈ zw := zm 954 (by rfl) (by rfl)
set_option maxRecDepth 100000 in
theorem zw_955 : Cond.code yX7_popOf cX7_popOf 3 none ∈ zw := zm 955 (by rfl) (by rfl)
set_option maxRecDepth 100000 in
theorem zw_956 : Cond.methodLink RX7 208 yX7_others ∈ zw := zm 956 (by rfl) (by rfl)
set_option maxRecDepth 100000 in
theorem zw_958 : Cond.instanceMethod yX7_others ∈ zw := zm 958 (by rfl) (by rfl)
set_option maxRecDepth 100000 in
theorem zw_959 : Cond.code yX7_others cX7_others 5 none ∈ zw := zm 959 (by rfl) (by rfl)
set_option maxRecDepth 100000 in
theorem zw_960 : Cond.methodLink RX7 193 yX7_out ∈ zw := zm 960 (by rfl) (by rfl)
set_option maxRecDepth 100000 in
theorem zw_962 : Cond.instanceMethod yX7_out ∈ zw := zm 962 (by rfl) (by rfl)
set_option maxRecDepth 100000 in
theorem zw_963 : Cond.code yX7_out cX7_out 4 none ∈ zw := zm 963 (by rfl) (by rfl)
set_option maxRecDepth 100000 in
theorem zw_964 : Cond.methodLink RX7 126 yX7_lengthOf ∈ zw := zm 964 (by rfl) (by rfl)
set_option maxRecDepth 100000 in
theorem zw_966 : Cond.instanceMethod yX7_lengthOf ∈ zw := zm 966 (by rfl) (by rfl)
set_option maxRecDepth 100000 in
theorem zw_967 : Cond.code yX7_lengthOf cX7_lengthOf 2 (some .int) ∈ zw := zm 967 (by rfl) (by rfl)
set_option maxRecDepth 100000 in
theorem zw_968 : Cond.constant RX7 138 (65280) ∈ zw := zm 968 (by rfl) (by rfl)
set_option maxRecDepth 100000 in
theorem zw_969 : Cond.methodLink RX7 196 yX7_in ∈ zw := zm 969 (by rfl) (by rfl)
set_option maxRecDepth 100000 in
theorem zw_971 : Cond.instanceMethod yX7_in ∈ zw := zm 971 (by rfl) (by rfl)
set_option maxRecDepth 100000 in
theorem zw_972 : Cond.code yX7_in cX7_in 4 (some .int) ∈ zw := zm 972 (by rfl) (by rfl)
set_option maxRecDepth 100000 in
theorem zw_973 : Cond.methodLink RX7 114 yX7_status ∈ zw := zm 973 (by rfl) (by rfl)
set_option maxRecDepth 100000 in
theorem zw_975 : Cond.instanceMethod yX7_status ∈ zw := zm 975 (by rfl) (by rfl)
set_option maxRecDepth 100000 in
theorem zw_976 : Cond.code yX7_status cX7_status 1 (some .int) ∈ zw := zm 976 (by rfl) (by rfl)
set_option maxRecDepth 100000 in
theorem zw_977 : Cond.methodLink RX7 211 yX7_pushOf ∈ zw := zm 977 (by rfl) (by rfl)
set_option maxRecDepth 100000 in
theorem zw_979 : Cond.instanceMethod yX7_pushOf ∈ zw := zm 979 (by rfl) (by rfl)
set_option maxRecDepth 100000 in
theorem zw_980 : Cond.code yX7_pushOf cX7_pushOf 3 none ∈ zw := zm 980 (by rfl) (by rfl)
set_option maxRecDepth 100000 in
theorem zw_981 : Cond.methodLink RX7 229 yX7_pass ∈ zw := zm 981 (by rfl) (by rfl)
set_option maxRecDepth 100000 in
theorem zw_983 : Cond.instanceMethod yX7_pass ∈ zw := zm 983 (by rfl) (by rfl)
set_option maxRecDepth 100000 in
theorem zw_984 : Cond.code yX7_pass cX7_pass 3 none ∈ zw := zm 984 (by rfl) (by rfl)
set_option maxRecDepth 100000 in
theorem zw_985 : Cond.methodLink RX7 145 yX7_tickTimer ∈ zw := zm 985 (by rfl) (by rfl)
set_option maxRecDepth 100000 in
theorem zw_987 : Cond.instanceMethod yX7_tickTimer ∈ zw := zm 987 (by rfl) (by rfl)
set_option maxRecDepth 100000 in
theorem zw_988 : Cond.code yX7_tickTimer cX7_tickTimer 1 none ∈ zw := zm 988 (by rfl) (by rfl)
set_option maxRecDepth 100000 in
theorem zw_989 : Cond.methodLink RX7 151 yX7_scan ∈ zw := zm 989 (by rfl) (by rfl)
set_option maxRecDepth 100000 in
theorem zw_991 : Cond.instanceMethod yX7_scan ∈ zw := zm 991 (by rfl) (by rfl)
set_option maxRecDepth 100000 in
theorem zw_992 : Cond.code yX7_scan cX7_scan 2 none ∈ zw := zm 992 (by rfl) (by rfl)
set_option maxRecDepth 100000 in
theorem zw_993 : Cond.methodLink RL 57 yX7_steps ∈ zw := zm 993 (by rfl) (by rfl)
set_option maxRecDepth 100000 in
theorem zw_994 : Cond.instanceMethod yX7_steps ∈ zw := zm 994 (by rfl) (by rfl)
set_option maxRecDepth 100000 in
theorem zw_995 : Cond.selects RX7 yX7_steps yX7_steps ∈ zw := zm 995 (by rfl) (by rfl)
set_option maxRecDepth 100000 in
theorem zw_996 : Cond.code yX7_steps cX7_steps 4 (some .int) ∈ zw := zm 996 (by rfl) (by rfl)
set_option maxRecDepth 100000 in
theorem zw_997 : Cond.methodLink RL 61 yX7_key ∈ zw := zm 997 (by rfl) (by rfl)
set_option maxRecDepth 100000 in
theorem zw_998 : Cond.instanceMethod yX7_key ∈ zw := zm 998 (by rfl) (by rfl)
set_option maxRecDepth 100000 in
theorem zw_999 : Cond.selects RX7 yX7_key yX7_key ∈ zw := zm 999 (by rfl) (by rfl)
set_option maxRecDepth 100000 in
theorem zw_1000 : Cond.code yX7_key cX7_key 4 (some .boolean) ∈ zw := zm 1000 (by rfl) (by rfl)
set_option maxRecDepth 100000 in
theorem zw_1001 : Cond.methodLink RL 64 yX7_line ∈ zw := zm 1001 (by rfl) (by rfl)
set_option maxRecDepth 100000 in
theorem zw_1002 : Cond.instanceMethod yX7_line ∈ zw := zm 1002 (by rfl) (by rfl)
set_option maxRecDepth 100000 in
theorem zw_1003 : Cond.selects RX7 yX7_line yX7_line ∈ zw := zm 1003 (by rfl) (by rfl)
set_option maxRecDepth 100000 in
theorem zw_1004 : Cond.code yX7_line cX7_line 4 (some .boolean) ∈ zw := zm 1004 (by rfl) (by rfl)
set_option maxRecDepth 100000 in
theorem zw_1005 : Cond.methodLink RL 70 yX7_about ∈ zw := zm 1005 (by rfl) (by rfl)
set_option maxRecDepth 100000 in
theorem zw_1006 : Cond.instanceMethod yX7_about ∈ zw := zm 1006 (by rfl) (by rfl)
set_option maxRecDepth 100000 in
theorem zw_1007 : Cond.selects RX7 yX7_about yX7_about ∈ zw := zm 1007 (by rfl) (by rfl)
set_option maxRecDepth 100000 in
theorem zw_1008 : Cond.code yX7_about cX7_about 2 (some .int) ∈ zw := zm 1008 (by rfl) (by rfl)
set_option maxRecDepth 100000 in
theorem zw_1009 : Cond.methodLink RL 73 yX7_shown ∈ zw := zm 1009 (by rfl) (by rfl)
set_option maxRecDepth 100000 in
theorem zw_1010 : Cond.instanceMethod yX7_shown ∈ zw := zm 1010 (by rfl) (by rfl)
set_option maxRecDepth 100000 in
theorem zw_1011 : Cond.selects RX7 yX7_shown yX7_shown ∈ zw := zm 1011 (by rfl) (by rfl)
set_option maxRecDepth 100000 in
theorem zw_1012 : Cond.code yX7_shown cX7_shown 2 (some .int) ∈ zw := zm 1012 (by rfl) (by rfl)
set_option maxRecDepth 100000 in
theorem zw_1013 : Cond.methodLink RL 77 yX7_set ∈ zw := zm 1013 (by rfl) (by rfl)
set_option maxRecDepth 100000 in
theorem zw_1014 : Cond.instanceMethod yX7_set ∈ zw := zm 1014 (by rfl) (by rfl)
set_option maxRecDepth 100000 in
theorem zw_1015 : Cond.selects RX7 yX7_set yX7_set ∈ zw := zm 1015 (by rfl) (by rfl)
set_option maxRecDepth 100000 in
theorem zw_1016 : Cond.code yX7_set cX7_set 3 none ∈ zw := zm 1016 (by rfl) (by rfl)
set_option maxRecDepth 100000 in
theorem zw_1017 : Cond.arrayClass .long ∈ zw := zm 1017 (by rfl) (by rfl)
set_option maxRecDepth 100000 in
theorem zx_0 : ∀ w ∈ u_ws RX0 TX0 1, w ∈ zw := zw_in _ (by decide +kernel)
set_option maxRecDepth 100000 in
theorem zx_1 : ∀ w ∈ u_ws RX1 TX1 7, w ∈ zw := zw_in _ (by decide +kernel)
set_option maxRecDepth 100000 in
theorem zx_2 : ∀ w ∈ u_ws RX2 TX2 11, w ∈ zw := zw_in _ (by decide +kernel)
set_option maxRecDepth 100000 in
theorem zx_3 : ∀ w ∈ u_ws RX3 TX3 2, w ∈ zw := zw_in _ (by decide +kernel)
set_option maxRecDepth 100000 in
theorem zx_4 : ∀ w ∈ u_ws RX4 TX4 11, w ∈ zw := zw_in _ (by decide +kernel)
set_option maxRecDepth 100000 in
theorem zx_5 : ∀ w ∈ u_ws RX5 TX5 7, w ∈ zw := zw_in _ (by decide +kernel)
set_option maxRecDepth 100000 in
theorem zx_6 : ∀ w ∈ u_ws RX6 TX6 5, w ∈ zw := zw_in _ (by decide +kernel)
set_option maxRecDepth 100000 in
theorem zx_7 : ∀ w ∈ u_ws RX7 TX7 30, w ∈ zw := zw_in _ (by decide +kernel)
