theorem dX6_about_185 : decode cX6_about 185 = .ok (.new 54, 3) := by decide +kernel
theorem dX6_about_188 : decode cX6_about 188 = .ok (.dup, 1) := by decide +kernel
theorem dX6_about_189 : decode cX6_about 189 = .ok (.ldc 109, 2) := by decide +kernel
theorem dX6_about_191 : decode cX6_about 191 = .ok (.invokespecial 58, 3) := by decide +kernel
theorem dX6_about_194 : decode cX6_about 194 = .ok (.athrow, 1) := by decide +kernel
theorem dX6_key_10 : decode cX6_key 10 = .ok (.new 54, 3) := by decide +kernel
theorem dX6_key_13 : decode cX6_key 13 = .ok (.dup, 1) := by decide +kernel
theorem dX6_key_14 : decode cX6_key 14 = .ok (.ldc 56, 2) := by decide +kernel
theorem dX6_key_16 : decode cX6_key 16 = .ok (.invokespecial 58, 3) := by decide +kernel
theorem dX6_key_19 : decode cX6_key 19 = .ok (.athrow, 1) := by decide +kernel
theorem dX6_line_12 : decode cX6_line 12 = .ok (.dup, 1) := by decide +kernel
theorem dX6_line_13 : decode cX6_line 13 = .ok (.ldc 63, 2) := by decide +kernel
theorem dX6_line_15 : decode cX6_line 15 = .ok (.invokespecial 58, 3) := by decide +kernel
theorem dX6_line_18 : decode cX6_line 18 = .ok (.athrow, 1) := by decide +kernel
theorem dX6_line_9 : decode cX6_line 9 = .ok (.new 54, 3) := by decide +kernel
theorem dX6_set_119 : decode cX6_set 119 = .ok (.new 54, 3) := by decide +kernel
theorem dX6_set_122 : decode cX6_set 122 = .ok (.dup, 1) := by decide +kernel
theorem dX6_set_123 : decode cX6_set 123 = .ok (.ldc 117, 2) := by decide +kernel
theorem dX6_set_125 : decode cX6_set 125 = .ok (.invokespecial 58, 3) := by decide +kernel
theorem dX6_set_128 : decode cX6_set 128 = .ok (.athrow, 1) := by decide +kernel
theorem dX6_shown_10 : decode cX6_shown 10 = .ok (.new 54, 3) := by decide +kernel
theorem dX6_shown_13 : decode cX6_shown 13 = .ok (.dup, 1) := by decide +kernel
theorem dX6_shown_14 : decode cX6_shown 14 = .ok (.ldc 111, 2) := by decide +kernel
theorem dX6_shown_16 : decode cX6_shown 16 = .ok (.invokespecial 58, 3) := by decide +kernel
theorem dX6_shown_19 : decode cX6_shown 19 = .ok (.athrow, 1) := by decide +kernel
theorem dX6_steps_11 : decode cX6_steps 11 = .ok (.new 47, 3) := by decide +kernel
theorem dX6_steps_14 : decode cX6_steps 14 = .ok (.dup, 1) := by decide +kernel
theorem dX6_steps_15 : decode cX6_steps 15 = .ok (.ldc 49, 2) := by decide +kernel
theorem dX6_steps_17 : decode cX6_steps 17 = .ok (.invokespecial 51, 3) := by decide +kernel
theorem dX6_steps_20 : decode cX6_steps 20 = .ok (.athrow, 1) := by decide +kernel
set_option maxRecDepth 100000 in
theorem zo_A : (Bundle.ownAtoms RX6 51 "java/lang/IllegalArgumentException" ["java/lang/RuntimeException", "java/lang/Exception"]).all (fun w => (lw_tbl.contains w && goodWord w) || decide (w = .isRef (.static Bundle.tN "UNASSIGNED_STACK" Bundle.steD)) || decide (w = .isRef (.static Bundle.tN "SUPPRESSED_SENTINEL" Bundle.listD)) || decide (w = .laysStatic Bundle.tN "UNASSIGNED_STACK" Bundle.steD) || decide (w = .laysStatic Bundle.tN "SUPPRESSED_SENTINEL" Bundle.listD) || za_D.any (fun x => decide (w = .declares x)) || za_C.any (fun x => decide (w = .castable x x))) = true := by decide +kernel
set_option maxRecDepth 100000 in
theorem zo_B : (Bundle.ownAtoms RX6 58 "java/lang/IndexOutOfBoundsException" ["java/lang/RuntimeException", "java/lang/Exception"]).all (fun w => (lw_tbl.contains w && goodWord w) || decide (w = .isRef (.static Bundle.tN "UNASSIGNED_STACK" Bundle.steD)) || decide (w = .isRef (.static Bundle.tN "SUPPRESSED_SENTINEL" Bundle.listD)) || decide (w = .laysStatic Bundle.tN "UNASSIGNED_STACK" Bundle.steD) || decide (w = .laysStatic Bundle.tN "SUPPRESSED_SENTINEL" Bundle.listD) || za_D.any (fun x => decide (w = .declares x)) || za_C.any (fun x => decide (w = .castable x x))) = true := by decide +kernel
set_option maxHeartbeats 4000000 in
set_option maxRecDepth 100000 in
theorem x_steps_neg (l : Launch) (hf : l.flags = pinnedFlags ++ [noTraceFlag]) (a_k : Nat) (n0 : Int32) (hb0 : n0 < 0) : zt_Met l yX6_steps (zq yX6_steps cX6_steps 4 (some .int)) ({ frames := 6, cells := 1, slots := 6, locals := 90 }) (va_Pc [.ref a_k, .int n0] zt_P) "java/lang/IllegalArgumentException" := by
  refine zt_ofW (cc := cX6_steps) (maxL := 4) (ret := (some .int)) (by decide) rfl ?_
  intro p e s m args below meth c s₁ B hml hE hv
  obtain ⟨rfl, hZ⟩ := hv
  have hx := B.exec
  have hb := B.bytes
  have hts : ∀ w ∈ zw, w.before _ s = true := fun w h => atoms_spec (ws := (zq yX6_steps cX6_steps 4 (some .int))) B.pre w (List.mem_cons_of_mem _ h)
  have hown : s.vm.findClass RX6 = some m.cls := findClass_of_methodNamed B.named
  have hlocks := B.notSynchronized
  have hl := lv_entry ([.ref a_k, .int n0]) (n := 4) (Nat.le_of_ble_eq_true rfl)
  rw [lg_entry_eq]
  generalize (lg_sl ([.ref a_k, .int n0]) ++ List.replicate (4 - (lg_sl ([.ref a_k, .int n0])).length) Slot.unset).toArray = ls at hl ⊢
  have hl : lv_has ls 4 [(0, .ref a_k), (1, .int n0)] := hl
  refine lv_iload_n hx hb dX6_steps_0 rfl (lv_at hl 1 rfl) ?_
  refine lv_if_lt (tgt := 11) hx hb dX6_steps_1 (by decide) (fun c_1 => ?_) (fun c_1 => absurd hb0 c_1)
  obtain ⟨q, hq⟩ := hZ.2.2.2.2 (49, "steps are 0 .. 200") (List.mem_of_getElem? (i := 0) rfl)
  exact zt_throw (own := RX6) (X := "java/lang/IllegalArgumentException") (tx := "steps are 0 .. 200") (names := ["java/lang/RuntimeException", "java/lang/Exception"]) (i0 := 47) (i1 := 49) (i2 := 51) hf hx hb (hml.trans hl.1.symm) hlocks hown (za_own hts hZ zo_A) (hts (.classLink RX6 47 "java/lang/IllegalArgumentException") zw_589) (hts (.initialized "java/lang/IllegalArgumentException") zw_96) (by decide +kernel) (by decide +kernel) hq dX6_steps_11 dX6_steps_14 dX6_steps_15 dX6_steps_17 dX6_steps_20 hE (by decide) (by decide) (by decide) (by decide)
set_option maxHeartbeats 4000000 in
set_option maxRecDepth 100000 in
theorem x_steps_big (l : Launch) (hf : l.flags = pinnedFlags ++ [noTraceFlag]) (a_k : Nat) (n0 : Int32) (hb0 : ¬ n0 < 0) (hb1 : ¬ n0 ≤ 200) : zt_Met l yX6_steps (zq yX6_steps cX6_steps 4 (some .int)) ({ frames := 6, cells := 1, slots := 6, locals := 90 }) (va_Pc [.ref a_k, .int n0] zt_P) "java/lang/IllegalArgumentException" := by
  refine zt_ofW (cc := cX6_steps) (maxL := 4) (ret := (some .int)) (by decide) rfl ?_
  intro p e s m args below meth c s₁ B hml hE hv
  obtain ⟨rfl, hZ⟩ := hv
  have hx := B.exec
  have hb := B.bytes
  have hts : ∀ w ∈ zw, w.before _ s = true := fun w h => atoms_spec (ws := (zq yX6_steps cX6_steps 4 (some .int))) B.pre w (List.mem_cons_of_mem _ h)
  have hown : s.vm.findClass RX6 = some m.cls := findClass_of_methodNamed B.named
  have hlocks := B.notSynchronized
  have hl := lv_entry ([.ref a_k, .int n0]) (n := 4) (Nat.le_of_ble_eq_true rfl)
  rw [lg_entry_eq]
  generalize (lg_sl ([.ref a_k, .int n0]) ++ List.replicate (4 - (lg_sl ([.ref a_k, .int n0])).length) Slot.unset).toArray = ls at hl ⊢
  have hl : lv_has ls 4 [(0, .ref a_k), (1, .int n0)] := hl
  refine lv_iload_n hx hb dX6_steps_0 rfl (lv_at hl 1 rfl) ?_
  refine lv_if_lt (tgt := 11) hx hb dX6_steps_1 (by decide) (fun c_1 => absurd c_1 hb0) (fun c_1 => ?_)
  refine lv_iload_n hx hb dX6_steps_4 rfl (lv_at hl 1 rfl) ?_
  refine lv_sipush (v := 200) hx hb dX6_steps_5 (by decide) ?_
  refine lv_icmp_le (tgt := 21) hx hb dX6_steps_8 (by decide) (fun c_2 => absurd c_2 hb1) (fun c_2 => ?_)
  obtain ⟨q, hq⟩ := hZ.2.2.2.2 (49, "steps are 0 .. 200") (List.mem_of_getElem? (i := 0) rfl)
  exact zt_throw (own := RX6) (X := "java/lang/IllegalArgumentException") (tx := "steps are 0 .. 200") (names := ["java/lang/RuntimeException", "java/lang/Exception"]) (i0 := 47) (i1 := 49) (i2 := 51) hf hx hb (hml.trans hl.1.symm) hlocks hown (za_own hts hZ zo_A) (hts (.classLink RX6 47 "java/lang/IllegalArgumentException") zw_589) (hts (.initialized "java/lang/IllegalArgumentException") zw_96) (by decide +kernel) (by decide +kernel) hq dX6_steps_11 dX6_steps_14 dX6_steps_15 dX6_steps_17 dX6_steps_20 hE (by decide) (by decide) (by decide) (by decide)
set_option maxHeartbeats 4000000 in
set_option maxRecDepth 100000 in
theorem x_key_neg (l : Launch) (hf : l.flags = pinnedFlags ++ [noTraceFlag]) (a_k : Nat) (k : Int32) (b : Int32) (hb0 : k < 0) : zt_Met l yX6_key (zq yX6_key cX6_key 4 (some .boolean)) ({ frames := 6, cells := 1, slots := 6, locals := 90 }) (va_Pc [.ref a_k, .int k, .int b] zt_P) "java/lang/IndexOutOfBoundsException" := by
  refine zt_ofW (cc := cX6_key) (maxL := 4) (ret := (some .boolean)) (by decide) rfl ?_
  intro p e s m args below meth c s₁ B hml hE hv
  obtain ⟨rfl, hZ⟩ := hv
  have hx := B.exec
  have hb := B.bytes
  have hts : ∀ w ∈ zw, w.before _ s = true := fun w h => atoms_spec (ws := (zq yX6_key cX6_key 4 (some .boolean))) B.pre w (List.mem_cons_of_mem _ h)
  have hown : s.vm.findClass RX6 = some m.cls := findClass_of_methodNamed B.named
  have hlocks := B.notSynchronized
  have hl := lv_entry ([.ref a_k, .int k, .int b]) (n := 4) (Nat.le_of_ble_eq_true rfl)
  rw [lg_entry_eq]
  generalize (lg_sl ([.ref a_k, .int k, .int b]) ++ List.replicate (4 - (lg_sl ([.ref a_k, .int k, .int b])).length) Slot.unset).toArray = ls at hl ⊢
  have hl : lv_has ls 4 [(0, .ref a_k), (1, .int k), (2, .int b)] := hl
  refine lv_iload_n hx hb dX6_key_0 rfl (lv_at hl 1 rfl) ?_
  refine lv_if_lt (tgt := 10) hx hb dX6_key_1 (by decide) (fun c_1 => ?_) (fun c_1 => absurd hb0 c_1)
  obtain ⟨q, hq⟩ := hZ.2.2.2.2 (56, "keys are 0 .. 15") (List.mem_of_getElem? (i := 1) rfl)
  exact zt_throw (own := RX6) (X := "java/lang/IndexOutOfBoundsException") (tx := "keys are 0 .. 15") (names := ["java/lang/RuntimeException", "java/lang/Exception"]) (i0 := 54) (i1 := 56) (i2 := 58) hf hx hb (hml.trans hl.1.symm) hlocks hown (za_own hts hZ zo_B) (hts (.classLink RX6 54 "java/lang/IndexOutOfBoundsException") zw_664) (hts (.initialized "java/lang/IndexOutOfBoundsException") zw_97) (by decide +kernel) (by decide +kernel) hq dX6_key_10 dX6_key_13 dX6_key_14 dX6_key_16 dX6_key_19 hE (by decide) (by decide) (by decide) (by decide)
set_option maxHeartbeats 4000000 in
set_option maxRecDepth 100000 in
theorem x_key_big (l : Launch) (hf : l.flags = pinnedFlags ++ [noTraceFlag]) (a_k : Nat) (k : Int32) (b : Int32) (hb0 : ¬ k < 0) (hb1 : ¬ k < 16) : zt_Met l yX6_key (zq yX6_key cX6_key 4 (some .boolean)) ({ frames := 6, cells := 1, slots := 6, locals := 90 }) (va_Pc [.ref a_k, .int k, .int b] zt_P) "java/lang/IndexOutOfBoundsException" := by
  refine zt_ofW (cc := cX6_key) (maxL := 4) (ret := (some .boolean)) (by decide) rfl ?_
  intro p e s m args below meth c s₁ B hml hE hv
  obtain ⟨rfl, hZ⟩ := hv
  have hx := B.exec
  have hb := B.bytes
  have hts : ∀ w ∈ zw, w.before _ s = true := fun w h => atoms_spec (ws := (zq yX6_key cX6_key 4 (some .boolean))) B.pre w (List.mem_cons_of_mem _ h)
  have hown : s.vm.findClass RX6 = some m.cls := findClass_of_methodNamed B.named
  have hlocks := B.notSynchronized
  have hl := lv_entry ([.ref a_k, .int k, .int b]) (n := 4) (Nat.le_of_ble_eq_true rfl)
  rw [lg_entry_eq]
  generalize (lg_sl ([.ref a_k, .int k, .int b]) ++ List.replicate (4 - (lg_sl ([.ref a_k, .int k, .int b])).length) Slot.unset).toArray = ls at hl ⊢
  have hl : lv_has ls 4 [(0, .ref a_k), (1, .int k), (2, .int b)] := hl
  refine lv_iload_n hx hb dX6_key_0 rfl (lv_at hl 1 rfl) ?_
  refine lv_if_lt (tgt := 10) hx hb dX6_key_1 (by decide) (fun c_1 => absurd c_1 hb0) (fun c_1 => ?_)
  refine lv_iload_n hx hb dX6_key_4 rfl (lv_at hl 1 rfl) ?_
  refine lv_bipush (v := 16) hx hb dX6_key_5 (by decide) ?_
  refine lv_icmp_lt (tgt := 20) hx hb dX6_key_7 (by decide) (fun c_2 => absurd c_2 hb1) (fun c_2 => ?_)
  obtain ⟨q, hq⟩ := hZ.2.2.2.2 (56, "keys are 0 .. 15") (List.mem_of_getElem? (i := 1) rfl)
  exact zt_throw (own := RX6) (X := "java/lang/IndexOutOfBoundsException") (tx := "keys are 0 .. 15") (names := ["java/lang/RuntimeException", "java/lang/Exception"]) (i0 := 54) (i1 := 56) (i2 := 58) hf hx hb (hml.trans hl.1.symm) hlocks hown (za_own hts hZ zo_B) (hts (.classLink RX6 54 "java/lang/IndexOutOfBoundsException") zw_664) (hts (.initialized "java/lang/IndexOutOfBoundsException") zw_97) (by decide +kernel) (by decide +kernel) hq dX6_key_10 dX6_key_13 dX6_key_14 dX6_key_16 dX6_key_19 hE (by decide) (by decide) (by decide) (by decide)
set_option maxHeartbeats 4000000 in
set_option maxRecDepth 100000 in
theorem x_line_neg (l : Launch) (hf : l.flags = pinnedFlags ++ [noTraceFlag]) (a_k : Nat) (k : Int32) (b : Int32) (hb0 : k < 0) : zt_Met l yX6_line (zq yX6_line cX6_line 4 (some .boolean)) ({ frames := 6, cells := 1, slots := 6, locals := 90 }) (va_Pc [.ref a_k, .int k, .int b] zt_P) "java/lang/IndexOutOfBoundsException" := by
  refine zt_ofW (cc := cX6_line) (maxL := 4) (ret := (some .boolean)) (by decide) rfl ?_
  intro p e s m args below meth c s₁ B hml hE hv
  obtain ⟨rfl, hZ⟩ := hv
  have hx := B.exec
  have hb := B.bytes
  have hts : ∀ w ∈ zw, w.before _ s = true := fun w h => atoms_spec (ws := (zq yX6_line cX6_line 4 (some .boolean))) B.pre w (List.mem_cons_of_mem _ h)
  have hown : s.vm.findClass RX6 = some m.cls := findClass_of_methodNamed B.named
  have hlocks := B.notSynchronized
  have hl := lv_entry ([.ref a_k, .int k, .int b]) (n := 4) (Nat.le_of_ble_eq_true rfl)
  rw [lg_entry_eq]
  generalize (lg_sl ([.ref a_k, .int k, .int b]) ++ List.replicate (4 - (lg_sl ([.ref a_k, .int k, .int b])).length) Slot.unset).toArray = ls at hl ⊢
  have hl : lv_has ls 4 [(0, .ref a_k), (1, .int k), (2, .int b)] := hl
  refine lv_iload_n hx hb dX6_line_0 rfl (lv_at hl 1 rfl) ?_
  refine lv_if_lt (tgt := 9) hx hb dX6_line_1 (by decide) (fun c_1 => ?_) (fun c_1 => absurd hb0 c_1)
  obtain ⟨q, hq⟩ := hZ.2.2.2.2 (63, "lines are 0 and 1") (List.mem_of_getElem? (i := 2) rfl)
  exact zt_throw (own := RX6) (X := "java/lang/IndexOutOfBoundsException") (tx := "lines are 0 and 1") (names := ["java/lang/RuntimeException", "java/lang/Exception"]) (i0 := 54) (i1 := 63) (i2 := 58) hf hx hb (hml.trans hl.1.symm) hlocks hown (za_own hts hZ zo_B) (hts (.classLink RX6 54 "java/lang/IndexOutOfBoundsException") zw_664) (hts (.initialized "java/lang/IndexOutOfBoundsException") zw_97) (by decide +kernel) (by decide +kernel) hq dX6_line_9 dX6_line_12 dX6_line_13 dX6_line_15 dX6_line_18 hE (by decide) (by decide) (by decide) (by decide)
set_option maxHeartbeats 4000000 in
set_option maxRecDepth 100000 in
theorem x_line_big (l : Launch) (hf : l.flags = pinnedFlags ++ [noTraceFlag]) (a_k : Nat) (k : Int32) (b : Int32) (hb0 : ¬ k < 0) (hb1 : ¬ k ≤ 1) : zt_Met l yX6_line (zq yX6_line cX6_line 4 (some .boolean)) ({ frames := 6, cells := 1, slots := 6, locals := 90 }) (va_Pc [.ref a_k, .int k, .int b] zt_P) "java/lang/IndexOutOfBoundsException" := by
  refine zt_ofW (cc := cX6_line) (maxL := 4) (ret := (some .boolean)) (by decide) rfl ?_
  intro p e s m args below meth c s₁ B hml hE hv
  obtain ⟨rfl, hZ⟩ := hv
  have hx := B.exec
  have hb := B.bytes
  have hts : ∀ w ∈ zw, w.before _ s = true := fun w h => atoms_spec (ws := (zq yX6_line cX6_line 4 (some .boolean))) B.pre w (List.mem_cons_of_mem _ h)
  have hown : s.vm.findClass RX6 = some m.cls := findClass_of_methodNamed B.named
  have hlocks := B.notSynchronized
  have hl := lv_entry ([.ref a_k, .int k, .int b]) (n := 4) (Nat.le_of_ble_eq_true rfl)
  rw [lg_entry_eq]
  generalize (lg_sl ([.ref a_k, .int k, .int b]) ++ List.replicate (4 - (lg_sl ([.ref a_k, .int k, .int b])).length) Slot.unset).toArray = ls at hl ⊢
  have hl : lv_has ls 4 [(0, .ref a_k), (1, .int k), (2, .int b)] := hl
  refine lv_iload_n hx hb dX6_line_0 rfl (lv_at hl 1 rfl) ?_
  refine lv_if_lt (tgt := 9) hx hb dX6_line_1 (by decide) (fun c_1 => absurd c_1 hb0) (fun c_1 => ?_)
  refine lv_iload_n hx hb dX6_line_4 rfl (lv_at hl 1 rfl) ?_
  refine lv_iconst (v := 1) hx hb dX6_line_5 (by decide) ?_
  refine lv_icmp_le (tgt := 19) hx hb dX6_line_6 (by decide) (fun c_2 => absurd c_2 hb1) (fun c_2 => ?_)
  obtain ⟨q, hq⟩ := hZ.2.2.2.2 (63, "lines are 0 and 1") (List.mem_of_getElem? (i := 2) rfl)
  exact zt_throw (own := RX6) (X := "java/lang/IndexOutOfBoundsException") (tx := "lines are 0 and 1") (names := ["java/lang/RuntimeException", "java/lang/Exception"]) (i0 := 54) (i1 := 63) (i2 := 58) hf hx hb (hml.trans hl.1.symm) hlocks hown (za_own hts hZ zo_B) (hts (.classLink RX6 54 "java/lang/IndexOutOfBoundsException") zw_664) (hts (.initialized "java/lang/IndexOutOfBoundsException") zw_97) (by decide +kernel) (by decide +kernel) hq dX6_line_9 dX6_line_12 dX6_line_13 dX6_line_15 dX6_line_18 hE (by decide) (by decide) (by decide) (by decide)
set_option maxHeartbeats 4000000 in
set_option maxRecDepth 100000 in
theorem x_shown_neg (l : Launch) (hf : l.flags = pinnedFlags ++ [noTraceFlag]) (a_k : Nat) (k : Int32) (hb0 : k < 0) : zt_Met l yX6_shown (zq yX6_shown cX6_shown 2 (some .int)) ({ frames := 6, cells := 1, slots := 6, locals := 90 }) (va_Pc [.ref a_k, .int k] zt_P) "java/lang/IndexOutOfBoundsException" := by
  refine zt_ofW (cc := cX6_shown) (maxL := 2) (ret := (some .int)) (by decide) rfl ?_
  intro p e s m args below meth c s₁ B hml hE hv
  obtain ⟨rfl, hZ⟩ := hv
  have hx := B.exec
  have hb := B.bytes
  have hts : ∀ w ∈ zw, w.before _ s = true := fun w h => atoms_spec (ws := (zq yX6_shown cX6_shown 2 (some .int))) B.pre w (List.mem_cons_of_mem _ h)
  have hown : s.vm.findClass RX6 = some m.cls := findClass_of_methodNamed B.named
  have hlocks := B.notSynchronized
  have hl := lv_entry ([.ref a_k, .int k]) (n := 2) (Nat.le_of_ble_eq_true rfl)
  rw [lg_entry_eq]
  generalize (lg_sl ([.ref a_k, .int k]) ++ List.replicate (2 - (lg_sl ([.ref a_k, .int k])).length) Slot.unset).toArray = ls at hl ⊢
  have hl : lv_has ls 2 [(0, .ref a_k), (1, .int k)] := hl
  refine lv_iload_n hx hb dX6_shown_0 rfl (lv_at hl 1 rfl) ?_
  refine lv_if_lt (tgt := 10) hx hb dX6_shown_1 (by decide) (fun c_1 => ?_) (fun c_1 => absurd hb0 c_1)
  obtain ⟨q, hq⟩ := hZ.2.2.2.2 (111, "the display has 0 .. 15") (List.mem_of_getElem? (i := 4) rfl)
  exact zt_throw (own := RX6) (X := "java/lang/IndexOutOfBoundsException") (tx := "the display has 0 .. 15") (names := ["java/lang/RuntimeException", "java/lang/Exception"]) (i0 := 54) (i1 := 111) (i2 := 58) hf hx hb (hml.trans hl.1.symm) hlocks hown (za_own hts hZ zo_B) (hts (.classLink RX6 54 "java/lang/IndexOutOfBoundsException") zw_664) (hts (.initialized "java/lang/IndexOutOfBoundsException") zw_97) (by decide +kernel) (by decide +kernel) hq dX6_shown_10 dX6_shown_13 dX6_shown_14 dX6_shown_16 dX6_shown_19 hE (by decide) (by decide) (by decide) (by decide)
set_option maxHeartbeats 4000000 in
set_option maxRecDepth 100000 in
theorem x_shown_big (l : Launch) (hf : l.flags = pinnedFlags ++ [noTraceFlag]) (a_k : Nat) (k : Int32) (hb0 : ¬ k < 0) (hb1 : ¬ k < 16) : zt_Met l yX6_shown (zq yX6_shown cX6_shown 2 (some .int)) ({ frames := 6, cells := 1, slots := 6, locals := 90 }) (va_Pc [.ref a_k, .int k] zt_P) "java/lang/IndexOutOfBoundsException" := by
  refine zt_ofW (cc := cX6_shown) (maxL := 2) (ret := (some .int)) (by decide) rfl ?_
  intro p e s m args below meth c s₁ B hml hE hv
  obtain ⟨rfl, hZ⟩ := hv
  have hx := B.exec
  have hb := B.bytes
  have hts : ∀ w ∈ zw, w.before _ s = true := fun w h => atoms_spec (ws := (zq yX6_shown cX6_shown 2 (some .int))) B.pre w (List.mem_cons_of_mem _ h)
  have hown : s.vm.findClass RX6 = some m.cls := findClass_of_methodNamed B.named
  have hlocks := B.notSynchronized
  have hl := lv_entry ([.ref a_k, .int k]) (n := 2) (Nat.le_of_ble_eq_true rfl)
  rw [lg_entry_eq]
  generalize (lg_sl ([.ref a_k, .int k]) ++ List.replicate (2 - (lg_sl ([.ref a_k, .int k])).length) Slot.unset).toArray = ls at hl ⊢
  have hl : lv_has ls 2 [(0, .ref a_k), (1, .int k)] := hl
  refine lv_iload_n hx hb dX6_shown_0 rfl (lv_at hl 1 rfl) ?_
  refine lv_if_lt (tgt := 10) hx hb dX6_shown_1 (by decide) (fun c_1 => absurd c_1 hb0) (fun c_1 => ?_)
  refine lv_iload_n hx hb dX6_shown_4 rfl (lv_at hl 1 rfl) ?_
  refine lv_bipush (v := 16) hx hb dX6_shown_5 (by decide) ?_
  refine lv_icmp_lt (tgt := 20) hx hb dX6_shown_7 (by decide) (fun c_2 => absurd c_2 hb1) (fun c_2 => ?_)
  obtain ⟨q, hq⟩ := hZ.2.2.2.2 (111, "the display has 0 .. 15") (List.mem_of_getElem? (i := 4) rfl)
  exact zt_throw (own := RX6) (X := "java/lang/IndexOutOfBoundsException") (tx := "the display has 0 .. 15") (names := ["java/lang/RuntimeException", "java/lang/Exception"]) (i0 := 54) (i1 := 111) (i2 := 58) hf hx hb (hml.trans hl.1.symm) hlocks hown (za_own hts hZ zo_B) (hts (.classLink RX6 54 "java/lang/IndexOutOfBoundsException") zw_664) (hts (.initialized "java/lang/IndexOutOfBoundsException") zw_97) (by decide +kernel) (by decide +kernel) hq dX6_shown_10 dX6_shown_13 dX6_shown_14 dX6_shown_16 dX6_shown_19 hE (by decide) (by decide) (by decide) (by decide)
set_option maxHeartbeats 4000000 in
set_option maxRecDepth 100000 in
theorem x_about (l : Launch) (hf : l.flags = pinnedFlags ++ [noTraceFlag]) (a_k : Nat) (k : Int32) (hb9 : k.toInt < 0 ∨ 14 < k.toInt) : zt_Met l yX6_about (zq yX6_about cX6_about 2 (some .int)) ({ frames := 6, cells := 1, slots := 6, locals := 90 }) (va_Pc [.ref a_k, .int k] zt_P) "java/lang/IndexOutOfBoundsException" := by
  refine zt_ofW (cc := cX6_about) (maxL := 2) (ret := (some .int)) (by decide) rfl ?_
  intro p e s m args below meth c s₁ B hml hE hv
  obtain ⟨rfl, hZ⟩ := hv
  have hx := B.exec
  have hb := B.bytes
  have hts : ∀ w ∈ zw, w.before _ s = true := fun w h => atoms_spec (ws := (zq yX6_about cX6_about 2 (some .int))) B.pre w (List.mem_cons_of_mem _ h)
  have hown : s.vm.findClass RX6 = some m.cls := findClass_of_methodNamed B.named
  have hlocks := B.notSynchronized
  have hl := lv_entry ([.ref a_k, .int k]) (n := 2) (Nat.le_of_ble_eq_true rfl)
  rw [lg_entry_eq]
  generalize (lg_sl ([.ref a_k, .int k]) ++ List.replicate (2 - (lg_sl ([.ref a_k, .int k])).length) Slot.unset).toArray = ls at hl ⊢
  have hl : lv_has ls 2 [(0, .ref a_k), (1, .int k)] := hl
  refine lv_iload_n hx hb dX6_about_0 rfl (lv_at hl 1 rfl) ?_
  refine lv_tableOut (tgt := 185) hx hb dX6_about_1 hb9 (by decide) ?_
  obtain ⟨q, hq⟩ := hZ.2.2.2.2 (109, "about takes 0 .. 14") (List.mem_of_getElem? (i := 3) rfl)
  exact zt_throw (own := RX6) (X := "java/lang/IndexOutOfBoundsException") (tx := "about takes 0 .. 14") (names := ["java/lang/RuntimeException", "java/lang/Exception"]) (i0 := 54) (i1 := 109) (i2 := 58) hf hx hb (hml.trans hl.1.symm) hlocks hown (za_own hts hZ zo_B) (hts (.classLink RX6 54 "java/lang/IndexOutOfBoundsException") zw_664) (hts (.initialized "java/lang/IndexOutOfBoundsException") zw_97) (by decide +kernel) (by decide +kernel) hq dX6_about_185 dX6_about_188 dX6_about_189 dX6_about_191 dX6_about_194 hE (by decide) (by decide) (by decide) (by decide)
set_option maxHeartbeats 4000000 in
set_option maxRecDepth 100000 in
theorem x_set (l : Launch) (hf : l.flags = pinnedFlags ++ [noTraceFlag]) (a_k : Nat) (k : Int32) (v : Int32) (hb9 : k.toInt < 0 ∨ 9 < k.toInt) : zt_Met l yX6_set (zq yX6_set cX6_set 3 none) ({ frames := 6, cells := 1, slots := 6, locals := 90 }) (va_Pc [.ref a_k, .int k, .int v] zt_P) "java/lang/IndexOutOfBoundsException" := by
  refine zt_ofW (cc := cX6_set) (maxL := 3) (ret := none) (by decide) rfl ?_
  intro p e s m args below meth c s₁ B hml hE hv
  obtain ⟨rfl, hZ⟩ := hv
  have hx := B.exec
  have hb := B.bytes
  have hts : ∀ w ∈ zw, w.before _ s = true := fun w h => atoms_spec (ws := (zq yX6_set cX6_set 3 none)) B.pre w (List.mem_cons_of_mem _ h)
  have hown : s.vm.findClass RX6 = some m.cls := findClass_of_methodNamed B.named
  have hlocks := B.notSynchronized
  have hl := lv_entry ([.ref a_k, .int k, .int v]) (n := 3) (Nat.le_of_ble_eq_true rfl)
  rw [lg_entry_eq]
  generalize (lg_sl ([.ref a_k, .int k, .int v]) ++ List.replicate (3 - (lg_sl ([.ref a_k, .int k, .int v])).length) Slot.unset).toArray = ls at hl ⊢
  have hl : lv_has ls 3 [(0, .ref a_k), (1, .int k), (2, .int v)] := hl
  refine lv_iload_n hx hb dX6_set_0 rfl (lv_at hl 1 rfl) ?_
  refine lv_tableOut (tgt := 119) hx hb dX6_set_1 hb9 (by decide) ?_
  obtain ⟨q, hq⟩ := hZ.2.2.2.2 (117, "set takes 0 .. 9") (List.mem_of_getElem? (i := 5) rfl)
  exact zt_throw (own := RX6) (X := "java/lang/IndexOutOfBoundsException") (tx := "set takes 0 .. 9") (names := ["java/lang/RuntimeException", "java/lang/Exception"]) (i0 := 54) (i1 := 117) (i2 := 58) hf hx hb (hml.trans hl.1.symm) hlocks hown (za_own hts hZ zo_B) (hts (.classLink RX6 54 "java/lang/IndexOutOfBoundsException") zw_664) (hts (.initialized "java/lang/IndexOutOfBoundsException") zw_97) (by decide +kernel) (by decide +kernel) hq dX6_set_119 dX6_set_122 dX6_set_123 dX6_set_125 dX6_set_128 hE (by decide) (by decide) (by decide) (by decide)
