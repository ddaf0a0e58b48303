abbrev r_c_X0_init : Room := { frames := 1, cells := 4, slots := 40, locals := 12 }
set_option maxHeartbeats 4000000 in
set_option maxRecDepth 100000 in
theorem c_X0_init (l : Launch) (D : va_G) (cI cZ : ClassId) (aB : Nat)  : MV l yX0_init wsX0_init r_c_X0_init D cI cZ [.ref aB] [ob aB 0 [.null, .null, .null, .null, .int 0]] (fun (u : Nat × Nat × Nat × Nat) => True) (fun (u : Nat × Nat × Nat × Nat) => [ob aB 0 [.ref u.1, .ref u.2.1, .ref u.2.2.1, .ref u.2.2.2, .int 0], ar cI u.1 10 (fun _ => 0), ar cI u.2.1 10 (fun _ => 0), ar cI u.2.2.1 10 (fun _ => 0), ar cI u.2.2.2 10 (fun _ => 0)]) 4 40 := by
  refine MV.of (cc := cX0_init) (maxL := 1) (by decide) rfl (Nat.le_of_ble_eq_true rfl) ?_
  intro p e s m below meth c A Q hx hb hml hown hts hN hK hA ret hP hD hS ls hl hmn
  have hown : s.vm.findClass RX0 = some m.cls := hown
  have inX0 : ∀ w ∈ wsX00, w ∈ wsX0_init := by decide +kernel
  have fl9 := hts (.fieldLink RX0 9 "AdvanceBook$Balance" "open" "[I") (by decide +kernel)
  have fl15 := hts (.fieldLink RX0 15 "AdvanceBook$Balance" "payers" "[I") (by decide +kernel)
  have fl18 := hts (.fieldLink RX0 18 "AdvanceBook$Balance" "getters" "[I") (by decide +kernel)
  have fl21 := hts (.fieldLink RX0 21 "AdvanceBook$Balance" "coins" "[I") (by decide +kernel)
  have fl24 := hts (.fieldLink RX0 24 "AdvanceBook$Balance" "moves" "I") (by decide +kernel)
  have hP : va_P D vwCl [ob aB 0 [.null, .null, .null, .null, .int 0]] s.heap := hP
  have hD : va_D A [ob aB 0 [.null, .null, .null, .null, .int 0]] := hD
  have hl : lv_has ls 1 [(0, .ref aB)] := hl
  refine lv_aload_n hx hb dX0_init_0 rfl (lv_at hl 0 rfl) ?_
  refine W.objInit hx hb hown (hts (.methodLink RX0 3 objectInit) (by decide +kernel)) (hts (.instanceMethod objectInit) (by decide +kernel)) (hts (.code objectInit ⟨#[0xb1]⟩ 1 none) (by decide +kernel)) rfl (by rw [hml]; exact hl.1) rfl dX0_init_1 (Nat.le_of_ble_eq_true rfl) (Nat.le_of_ble_eq_true rfl) ?_
  refine W.eq (g2 := F0 m 4 ls []) rfl ?_
  refine lv_aload_n hx hb dX0_init_4 rfl (lv_at hl 0 rfl) ?_
  refine lv_bipush (v := 10) hx hb dX0_init_5 (by decide) ?_
  refine m_newaI (N := 10) hx hb (hts (.arrayClass .int) (by decide +kernel)) hK hP hD hS hA rfl (by decide) ⟨by decide, by decide⟩ dX0_init_7 (fun q_7 H hP hD hS => ?_)
  have hP : va_P D vwCl [ob aB 0 [.null, .null, .null, .null, .int 0], ar cI q_7 10 (fun _ => 0)] H := hP
  have hD : va_D A [ob aB 0 [.null, .null, .null, .null, .int 0], ar cI q_7 10 (fun _ => 0)] := hD
  refine W.widen (k := 1) (n := 10) (by decide) (by decide) ?_
  refine va_putF (D := D) (ci := 0) (v := .ref q_7) (ty := .array .int) (C := RX0) (T := TX0) (N := 5) hx hb hts inX0 tyX0 tyX0_ok nmX0 hown hK hP hD hS 0 rfl rfl 0 (by decide) fl9 (fun _ h9 => h9) rfl hmn rfl (by decide +kernel) (rfl) (rfl) (Nat.le_of_ble_eq_true rfl) dX0_init_9 (fun H locs hP hD hS => ?_)
  have hP : va_P D vwCl [ob aB 0 [.ref q_7, .null, .null, .null, .int 0], ar cI q_7 10 (fun _ => 0)] H := hP
  have hD : va_D A [ob aB 0 [.ref q_7, .null, .null, .null, .int 0], ar cI q_7 10 (fun _ => 0)] := hD
  refine lv_aload_n hx hb dX0_init_12 rfl (lv_at hl 0 rfl) ?_
  refine lv_bipush (v := 10) hx hb dX0_init_13 (by decide) ?_
  refine m_newaI (N := 10) hx hb (hts (.arrayClass .int) (by decide +kernel)) hK hP hD hS hA rfl (by decide) ⟨by decide, by decide⟩ dX0_init_15 (fun q_15 H hP hD hS => ?_)
  have hP : va_P D vwCl [ob aB 0 [.ref q_7, .null, .null, .null, .int 0], ar cI q_7 10 (fun _ => 0), ar cI q_15 10 (fun _ => 0)] H := hP
  have hD : va_D A [ob aB 0 [.ref q_7, .null, .null, .null, .int 0], ar cI q_7 10 (fun _ => 0), ar cI q_15 10 (fun _ => 0)] := hD
  refine W.widen (k := 2) (n := 20) (by decide) (by decide) ?_
  refine va_putF (D := D) (ci := 0) (v := .ref q_15) (ty := .array .int) (C := RX0) (T := TX0) (N := 5) hx hb hts inX0 tyX0 tyX0_ok nmX0 hown hK hP hD hS 0 rfl rfl 1 (by decide) fl15 (fun _ h9 => h9) rfl hmn rfl (by decide +kernel) (rfl) (rfl) (Nat.le_of_ble_eq_true rfl) dX0_init_17 (fun H locs hP hD hS => ?_)
  have hP : va_P D vwCl [ob aB 0 [.ref q_7, .ref q_15, .null, .null, .int 0], ar cI q_7 10 (fun _ => 0), ar cI q_15 10 (fun _ => 0)] H := hP
  have hD : va_D A [ob aB 0 [.ref q_7, .ref q_15, .null, .null, .int 0], ar cI q_7 10 (fun _ => 0), ar cI q_15 10 (fun _ => 0)] := hD
  refine lv_aload_n hx hb dX0_init_20 rfl (lv_at hl 0 rfl) ?_
  refine lv_bipush (v := 10) hx hb dX0_init_21 (by decide) ?_
  refine m_newaI (N := 10) hx hb (hts (.arrayClass .int) (by decide +kernel)) hK hP hD hS hA rfl (by decide) ⟨by decide, by decide⟩ dX0_init_23 (fun q_23 H hP hD hS => ?_)
  have hP : va_P D vwCl [ob aB 0 [.ref q_7, .ref q_15, .null, .null, .int 0], ar cI q_7 10 (fun _ => 0), ar cI q_15 10 (fun _ => 0), ar cI q_23 10 (fun _ => 0)] H := hP
  have hD : va_D A [ob aB 0 [.ref q_7, .ref q_15, .null, .null, .int 0], ar cI q_7 10 (fun _ => 0), ar cI q_15 10 (fun _ => 0), ar cI q_23 10 (fun _ => 0)] := hD
  refine W.widen (k := 3) (n := 30) (by decide) (by decide) ?_
  refine va_putF (D := D) (ci := 0) (v := .ref q_23) (ty := .array .int) (C := RX0) (T := TX0) (N := 5) hx hb hts inX0 tyX0 tyX0_ok nmX0 hown hK hP hD hS 0 rfl rfl 2 (by decide) fl18 (fun _ h9 => h9) rfl hmn rfl (by decide +kernel) (rfl) (rfl) (Nat.le_of_ble_eq_true rfl) dX0_init_25 (fun H locs hP hD hS => ?_)
  have hP : va_P D vwCl [ob aB 0 [.ref q_7, .ref q_15, .ref q_23, .null, .int 0], ar cI q_7 10 (fun _ => 0), ar cI q_15 10 (fun _ => 0), ar cI q_23 10 (fun _ => 0)] H := hP
  have hD : va_D A [ob aB 0 [.ref q_7, .ref q_15, .ref q_23, .null, .int 0], ar cI q_7 10 (fun _ => 0), ar cI q_15 10 (fun _ => 0), ar cI q_23 10 (fun _ => 0)] := hD
  refine lv_aload_n hx hb dX0_init_28 rfl (lv_at hl 0 rfl) ?_
  refine lv_bipush (v := 10) hx hb dX0_init_29 (by decide) ?_
  refine m_newaI (N := 10) hx hb (hts (.arrayClass .int) (by decide +kernel)) hK hP hD hS hA rfl (by decide) ⟨by decide, by decide⟩ dX0_init_31 (fun q_31 H hP hD hS => ?_)
  have hP : va_P D vwCl [ob aB 0 [.ref q_7, .ref q_15, .ref q_23, .null, .int 0], ar cI q_7 10 (fun _ => 0), ar cI q_15 10 (fun _ => 0), ar cI q_23 10 (fun _ => 0), ar cI q_31 10 (fun _ => 0)] H := hP
  have hD : va_D A [ob aB 0 [.ref q_7, .ref q_15, .ref q_23, .null, .int 0], ar cI q_7 10 (fun _ => 0), ar cI q_15 10 (fun _ => 0), ar cI q_23 10 (fun _ => 0), ar cI q_31 10 (fun _ => 0)] := hD
  refine W.widen (k := 4) (n := 40) (by decide) (by decide) ?_
  refine va_putF (D := D) (ci := 0) (v := .ref q_31) (ty := .array .int) (C := RX0) (T := TX0) (N := 5) hx hb hts inX0 tyX0 tyX0_ok nmX0 hown hK hP hD hS 0 rfl rfl 3 (by decide) fl21 (fun _ h9 => h9) rfl hmn rfl (by decide +kernel) (rfl) (rfl) (Nat.le_of_ble_eq_true rfl) dX0_init_33 (fun H locs hP hD hS => ?_)
  have hP : va_P D vwCl [ob aB 0 [.ref q_7, .ref q_15, .ref q_23, .ref q_31, .int 0], ar cI q_7 10 (fun _ => 0), ar cI q_15 10 (fun _ => 0), ar cI q_23 10 (fun _ => 0), ar cI q_31 10 (fun _ => 0)] H := hP
  have hD : va_D A [ob aB 0 [.ref q_7, .ref q_15, .ref q_23, .ref q_31, .int 0], ar cI q_7 10 (fun _ => 0), ar cI q_15 10 (fun _ => 0), ar cI q_23 10 (fun _ => 0), ar cI q_31 10 (fun _ => 0)] := hD
  refine lv_aload_n hx hb dX0_init_36 rfl (lv_at hl 0 rfl) ?_
  refine lv_iconst (v := 0) hx hb dX0_init_37 (by decide) ?_
  refine va_put (D := D) (ci := 0) (v := .int 0) (ty := .int) (C := RX0) (T := TX0) (N := 5) hx hb hts inX0 tyX0 tyX0_ok nmX0 hown hK hP hD hS 0 rfl rfl 4 (by decide) fl24 (fun _ h9 => h9) rfl (by decide +kernel) (rfl) (rfl) (Nat.le_of_ble_eq_true rfl) dX0_init_38 (fun H locs hP hD hS => ?_)
  have hP : va_P D vwCl [ob aB 0 [.ref q_7, .ref q_15, .ref q_23, .ref q_31, .int 0], ar cI q_7 10 (fun _ => 0), ar cI q_15 10 (fun _ => 0), ar cI q_23 10 (fun _ => 0), ar cI q_31 10 (fun _ => 0)] H := hP
  have hD : va_D A [ob aB 0 [.ref q_7, .ref q_15, .ref q_23, .ref q_31, .int 0], ar cI q_7 10 (fun _ => 0), ar cI q_15 10 (fun _ => 0), ar cI q_23 10 (fun _ => 0), ar cI q_31 10 (fun _ => 0)] := hD
  exact ret (q_7, q_15, q_23, q_31) _ _ _ _ dX0_init_41 (trivial) (hP) (hD) hS
abbrev r_c_X1_init : Room := { frames := 1, cells := 7, slots := 130, locals := 12 }
set_option maxHeartbeats 4000000 in
set_option maxRecDepth 100000 in
theorem c_X1_init (l : Launch) (D : va_G) (cI cZ : ClassId) (aC : Nat)  : MV l yX1_init wsX1_init r_c_X1_init D cI cZ [.ref aC] [ob aC 1 [.null, .null, .null, .null, .null, .null, .null, .int 0, .int 0, .int 0]] (fun (u : Nat × Nat × Nat × Nat × Nat × Nat × Nat) => True) (fun (u : Nat × Nat × Nat × Nat × Nat × Nat × Nat) => [ob aC 1 [.ref u.1, .ref u.2.1, .ref u.2.2.1, .ref u.2.2.2.1, .ref u.2.2.2.2.1, .ref u.2.2.2.2.2.1, .ref u.2.2.2.2.2.2, .int 0, .int 0, .int (-1)], ar cI u.1 40 (fun _ => 0), ar cI u.2.1 40 (fun _ => 0), ar cI u.2.2.1 10 (fun _ => 0), ar cI u.2.2.2.1 10 (fun _ => 0), ar cI u.2.2.2.2.1 10 (fun _ => 0), ar cI u.2.2.2.2.2.1 10 (fun _ => 0), ar cI u.2.2.2.2.2.2 10 (fun _ => 0)]) 7 130 := by
  refine MV.of (cc := cX1_init) (maxL := 1) (by decide) rfl (Nat.le_of_ble_eq_true rfl) ?_
  intro p e s m below meth c A Q hx hb hml hown hts hN hK hA ret hP hD hS ls hl hmn
  have hown : s.vm.findClass RX1 = some m.cls := hown
  have inX1 : ∀ w ∈ wsX10, w ∈ wsX1_init := by decide +kernel
  have fl9 := hts (.fieldLink RX1 9 "AdvanceBook$Clearing" "paid" "[I") (by decide +kernel)
  have fl15 := hts (.fieldLink RX1 15 "AdvanceBook$Clearing" "order" "[I") (by decide +kernel)
  have fl18 := hts (.fieldLink RX1 18 "AdvanceBook$Clearing" "has" "[I") (by decide +kernel)
  have fl21 := hts (.fieldLink RX1 21 "AdvanceBook$Clearing" "unpaid" "[I") (by decide +kernel)
  have fl24 := hts (.fieldLink RX1 24 "AdvanceBook$Clearing" "failed" "[I") (by decide +kernel)
  have fl27 := hts (.fieldLink RX1 27 "AdvanceBook$Clearing" "lost" "[I") (by decide +kernel)
  have fl30 := hts (.fieldLink RX1 30 "AdvanceBook$Clearing" "lastInOrder" "[I") (by decide +kernel)
  have fl33 := hts (.fieldLink RX1 33 "AdvanceBook$Clearing" "men" "I") (by decide +kernel)
  have fl37 := hts (.fieldLink RX1 37 "AdvanceBook$Clearing" "papers" "I") (by decide +kernel)
  have fl40 := hts (.fieldLink RX1 40 "AdvanceBook$Clearing" "rounds" "I") (by decide +kernel)
  have hP : va_P D vwCl [ob aC 1 [.null, .null, .null, .null, .null, .null, .null, .int 0, .int 0, .int 0]] s.heap := hP
  have hD : va_D A [ob aC 1 [.null, .null, .null, .null, .null, .null, .null, .int 0, .int 0, .int 0]] := hD
  have hl : lv_has ls 1 [(0, .ref aC)] := hl
  refine lv_aload_n hx hb dX1_init_0 rfl (lv_at hl 0 rfl) ?_
  refine W.objInit hx hb hown (hts (.methodLink RX1 3 objectInit) (by decide +kernel)) (hts (.instanceMethod objectInit) (by decide +kernel)) (hts (.code objectInit ⟨#[0xb1]⟩ 1 none) (by decide +kernel)) rfl (by rw [hml]; exact hl.1) rfl dX1_init_1 (Nat.le_of_ble_eq_true rfl) (Nat.le_of_ble_eq_true rfl) ?_
  refine W.eq (g2 := F0 m 4 ls []) rfl ?_
  refine lv_aload_n hx hb dX1_init_4 rfl (lv_at hl 0 rfl) ?_
  refine lv_bipush (v := 40) hx hb dX1_init_5 (by decide) ?_
  refine m_newaI (N := 40) hx hb (hts (.arrayClass .int) (by decide +kernel)) hK hP hD hS hA rfl (by decide) ⟨by decide, by decide⟩ dX1_init_7 (fun q_7 H hP hD hS => ?_)
  have hP : va_P D vwCl [ob aC 1 [.null, .null, .null, .null, .null, .null, .null, .int 0, .int 0, .int 0], ar cI q_7 40 (fun _ => 0)] H := hP
  have hD : va_D A [ob aC 1 [.null, .null, .null, .null, .null, .null, .null, .int 0, .int 0, .int 0], ar cI q_7 40 (fun _ => 0)] := hD
  refine W.widen (k := 1) (n := 40) (by decide) (by decide) ?_
  refine va_putF (D := D) (ci := 1) (v := .ref q_7) (ty := .array .int) (C := RX1) (T := TX1) (N := 10) hx hb hts inX1 tyX1 tyX1_ok nmX1 hown hK hP hD hS 0 rfl rfl 0 (by decide) fl9 (fun _ h9 => h9) rfl hmn rfl (by decide +kernel) (rfl) (rfl) (Nat.le_of_ble_eq_true rfl) dX1_init_9 (fun H locs hP hD hS => ?_)
  have hP : va_P D vwCl [ob aC 1 [.ref q_7, .null, .null, .null, .null, .null, .null, .int 0, .int 0, .int 0], ar cI q_7 40 (fun _ => 0)] H := hP
  have hD : va_D A [ob aC 1 [.ref q_7, .null, .null, .null, .null, .null, .null, .int 0, .int 0, .int 0], ar cI q_7 40 (fun _ => 0)] := hD
  refine lv_aload_n hx hb dX1_init_12 rfl (lv_at hl 0 rfl) ?_
  refine lv_bipush (v := 40) hx hb dX1_init_13 (by decide) ?_
  refine m_newaI (N := 40) hx hb (hts (.arrayClass .int) (by decide +kernel)) hK hP hD hS hA rfl (by decide) ⟨by decide, by decide⟩ dX1_init_15 (fun q_15 H hP hD hS => ?_)
  have hP : va_P D vwCl [ob aC 1 [.ref q_7, .null, .null, .null, .null, .null, .null, .int 0, .int 0, .int 0], ar cI q_7 40 (fun _ => 0), ar cI q_15 40 (fun _ => 0)] H := hP
  have hD : va_D A [ob aC 1 [.ref q_7, .null, .null, .null, .null, .null, .null, .int 0, .int 0, .int 0], ar cI q_7 40 (fun _ => 0), ar cI q_15 40 (fun _ => 0)] := hD
  refine W.widen (k := 2) (n := 80) (by decide) (by decide) ?_
  refine va_putF (D := D) (ci := 1) (v := .ref q_15) (ty := .array .int) (C := RX1) (T := TX1) (N := 10) hx hb hts inX1 tyX1 tyX1_ok nmX1 hown hK hP hD hS 0 rfl rfl 1 (by decide) fl15 (fun _ h9 => h9) rfl hmn rfl (by decide +kernel) (rfl) (rfl) (Nat.le_of_ble_eq_true rfl) dX1_init_17 (fun H locs hP hD hS => ?_)
  have hP : va_P D vwCl [ob aC 1 [.ref q_7, .ref q_15, .null, .null, .null, .null, .null, .int 0, .int 0, .int 0], ar cI q_7 40 (fun _ => 0), ar cI q_15 40 (fun _ => 0)] H := hP
  have hD : va_D A [ob aC 1 [.ref q_7, .ref q_15, .null, .null, .null, .null, .null, .int 0, .int 0, .int 0], ar cI q_7 40 (fun _ => 0), ar cI q_15 40 (fun _ => 0)] := hD
  refine lv_aload_n hx hb dX1_init_20 rfl (lv_at hl 0 rfl) ?_
  refine lv_bipush (v := 10) hx hb dX1_init_21 (by decide) ?_
  refine m_newaI (N := 10) hx hb (hts (.arrayClass .int) (by decide +kernel)) hK hP hD hS hA rfl (by decide) ⟨by decide, by decide⟩ dX1_init_23 (fun q_23 H hP hD hS => ?_)
  have hP : va_P D vwCl [ob aC 1 [.ref q_7, .ref q_15, .null, .null, .null, .null, .null, .int 0, .int 0, .int 0], ar cI q_7 40 (fun _ => 0), ar cI q_15 40 (fun _ => 0), ar cI q_23 10 (fun _ => 0)] H := hP
  have hD : va_D A [ob aC 1 [.ref q_7, .ref q_15, .null, .null, .null, .null, .null, .int 0, .int 0, .int 0], ar cI q_7 40 (fun _ => 0), ar cI q_15 40 (fun _ => 0), ar cI q_23 10 (fun _ => 0)] := hD
  refine W.widen (k := 3) (n := 90) (by decide) (by decide) ?_
  refine va_putF (D := D) (ci := 1) (v := .ref q_23) (ty := .array .int) (C := RX1) (T := TX1) (N := 10) hx hb hts inX1 tyX1 tyX1_ok nmX1 hown hK hP hD hS 0 rfl rfl 2 (by decide) fl18 (fun _ h9 => h9) rfl hmn rfl (by decide +kernel) (rfl) (rfl) (Nat.le_of_ble_eq_true rfl) dX1_init_25 (fun H locs hP hD hS => ?_)
  have hP : va_P D vwCl [ob aC 1 [.ref q_7, .ref q_15, .ref q_23, .null, .null, .null, .null, .int 0, .int 0, .int 0], ar cI q_7 40 (fun _ => 0), ar cI q_15 40 (fun _ => 0), ar cI q_23 10 (fun _ => 0)] H := hP
  have hD : va_D A [ob aC 1 [.ref q_7, .ref q_15, .ref q_23, .null, .null, .null, .null, .int 0, .int 0, .int 0], ar cI q_7 40 (fun _ => 0), ar cI q_15 40 (fun _ => 0), ar cI q_23 10 (fun _ => 0)] := hD
  refine lv_aload_n hx hb dX1_init_28 rfl (lv_at hl 0 rfl) ?_
  refine lv_bipush (v := 10) hx hb dX1_init_29 (by decide) ?_
  refine m_newaI (N := 10) hx hb (hts (.arrayClass .int) (by decide +kernel)) hK hP hD hS hA rfl (by decide) ⟨by decide, by decide⟩ dX1_init_31 (fun q_31 H hP hD hS => ?_)
  have hP : va_P D vwCl [ob aC 1 [.ref q_7, .ref q_15, .ref q_23, .null, .null, .null, .null, .int 0, .int 0, .int 0], ar cI q_7 40 (fun _ => 0), ar cI q_15 40 (fun _ => 0), ar cI q_23 10 (fun _ => 0), ar cI q_31 10 (fun _ => 0)] H := hP
  have hD : va_D A [ob aC 1 [.ref q_7, .ref q_15, .ref q_23, .null, .null, .null, .null, .int 0, .int 0, .int 0], ar cI q_7 40 (fun _ => 0), ar cI q_15 40 (fun _ => 0), ar cI q_23 10 (fun _ => 0), ar cI q_31 10 (fun _ => 0)] := hD
  refine W.widen (k := 4) (n := 100) (by decide) (by decide) ?_
  refine va_putF (D := D) (ci := 1) (v := .ref q_31) (ty := .array .int) (C := RX1) (T := TX1) (N := 10) hx hb hts inX1 tyX1 tyX1_ok nmX1 hown hK hP hD hS 0 rfl rfl 3 (by decide) fl21 (fun _ h9 => h9) rfl hmn rfl (by decide +kernel) (rfl) (rfl) (Nat.le_of_ble_eq_true rfl) dX1_init_33 (fun H locs hP hD hS => ?_)
  have hP : va_P D vwCl [ob aC 1 [.ref q_7, .ref q_15, .ref q_23, .ref q_31, .null, .null, .null, .int 0, .int 0, .int 0], ar cI q_7 40 (fun _ => 0), ar cI q_15 40 (fun _ => 0), ar cI q_23 10 (fun _ => 0), ar cI q_31 10 (fun _ => 0)] H := hP
  have hD : va_D A [ob aC 1 [.ref q_7, .ref q_15, .ref q_23, .ref q_31, .null, .null, .null, .int 0, .int 0, .int 0], ar cI q_7 40 (fun _ => 0), ar cI q_15 40 (fun _ => 0), ar cI q_23 10 (fun _ => 0), ar cI q_31 10 (fun _ => 0)] := hD
  refine lv_aload_n hx hb dX1_init_36 rfl (lv_at hl 0 rfl) ?_
  refine lv_bipush (v := 10) hx hb dX1_init_37 (by decide) ?_
  refine m_newaI (N := 10) hx hb (hts (.arrayClass .int) (by decide +kernel)) hK hP hD hS hA rfl (by decide) ⟨by decide, by decide⟩ dX1_init_39 (fun q_39 H hP hD hS => ?_)
  have hP : va_P D vwCl [ob aC 1 [.ref q_7, .ref q_15, .ref q_23, .ref q_31, .null, .null, .null, .int 0, .int 0, .int 0], ar cI q_7 40 (fun _ => 0), ar cI q_15 40 (fun _ => 0), ar cI q_23 10 (fun _ => 0), ar cI q_31 10 (fun _ => 0), ar cI q_39 10 (fun _ => 0)] H := hP
  have hD : va_D A [ob aC 1 [.ref q_7, .ref q_15, .ref q_23, .ref q_31, .null, .null, .null, .int 0, .int 0, .int 0], ar cI q_7 40 (fun _ => 0), ar cI q_15 40 (fun _ => 0), ar cI q_23 10 (fun _ => 0), ar cI q_31 10 (fun _ => 0), ar cI q_39 10 (fun _ => 0)] := hD
  refine W.widen (k := 5) (n := 110) (by decide) (by decide) ?_
  refine va_putF (D := D) (ci := 1) (v := .ref q_39) (ty := .array .int) (C := RX1) (T := TX1) (N := 10) hx hb hts inX1 tyX1 tyX1_ok nmX1 hown hK hP hD hS 0 rfl rfl 4 (by decide) fl24 (fun _ h9 => h9) rfl hmn rfl (by decide +kernel) (rfl) (rfl) (Nat.le_of_ble_eq_true rfl) dX1_init_41 (fun H locs hP hD hS => ?_)
  have hP : va_P D vwCl [ob aC 1 [.ref q_7, .ref q_15, .ref q_23, .ref q_31, .ref q_39, .null, .null, .int 0, .int 0, .int 0], ar cI q_7 40 (fun _ => 0), ar cI q_15 40 (fun _ => 0), ar cI q_23 10 (fun _ => 0), ar cI q_31 10 (fun _ => 0), ar cI q_39 10 (fun _ => 0)] H := hP
  have hD : va_D A [ob aC 1 [.ref q_7, .ref q_15, .ref q_23, .ref q_31, .ref q_39, .null, .null, .int 0, .int 0, .int 0], ar cI q_7 40 (fun _ => 0), ar cI q_15 40 (fun _ => 0), ar cI q_23 10 (fun _ => 0), ar cI q_31 10 (fun _ => 0), ar cI q_39 10 (fun _ => 0)] := hD
  refine lv_aload_n hx hb dX1_init_44 rfl (lv_at hl 0 rfl) ?_
  refine lv_bipush (v := 10) hx hb dX1_init_45 (by decide) ?_
  refine m_newaI (N := 10) hx hb (hts (.arrayClass .int) (by decide +kernel)) hK hP hD hS hA rfl (by decide) ⟨by decide, by decide⟩ dX1_init_47 (fun q_47 H hP hD hS => ?_)
  have hP : va_P D vwCl [ob aC 1 [.ref q_7, .ref q_15, .ref q_23, .ref q_31, .ref q_39, .null, .null, .int 0, .int 0, .int 0], ar cI q_7 40 (fun _ => 0), ar cI q_15 40 (fun _ => 0), ar cI q_23 10 (fun _ => 0), ar cI q_31 10 (fun _ => 0), ar cI q_39 10 (fun _ => 0), ar cI q_47 10 (fun _ => 0)] H := hP
  have hD : va_D A [ob aC 1 [.ref q_7, .ref q_15, .ref q_23, .ref q_31, .ref q_39, .null, .null, .int 0, .int 0, .int 0], ar cI q_7 40 (fun _ => 0), ar cI q_15 40 (fun _ => 0), ar cI q_23 10 (fun _ => 0), ar cI q_31 10 (fun _ => 0), ar cI q_39 10 (fun _ => 0), ar cI q_47 10 (fun _ => 0)] := hD
  refine W.widen (k := 6) (n := 120) (by decide) (by decide) ?_
  refine va_putF (D := D) (ci := 1) (v := .ref q_47) (ty := .array .int) (C := RX1) (T := TX1) (N := 10) hx hb hts inX1 tyX1 tyX1_ok nmX1 hown hK hP hD hS 0 rfl rfl 5 (by decide) fl27 (fun _ h9 => h9) rfl hmn rfl (by decide +kernel) (rfl) (rfl) (Nat.le_of_ble_eq_true rfl) dX1_init_49 (fun H locs hP hD hS => ?_)
  have hP : va_P D vwCl [ob aC 1 [.ref q_7, .ref q_15, .ref q_23, .ref q_31, .ref q_39, .ref q_47, .null, .int 0, .int 0, .int 0], ar cI q_7 40 (fun _ => 0), ar cI q_15 40 (fun _ => 0), ar cI q_23 10 (fun _ => 0), ar cI q_31 10 (fun _ => 0), ar cI q_39 10 (fun _ => 0), ar cI q_47 10 (fun _ => 0)] H := hP
  have hD : va_D A [ob aC 1 [.ref q_7, .ref q_15, .ref q_23, .ref q_31, .ref q_39, .ref q_47, .null, .int 0, .int 0, .int 0], ar cI q_7 40 (fun _ => 0), ar cI q_15 40 (fun _ => 0), ar cI q_23 10 (fun _ => 0), ar cI q_31 10 (fun _ => 0), ar cI q_39 10 (fun _ => 0), ar cI q_47 10 (fun _ => 0)] := hD
  refine lv_aload_n hx hb dX1_init_52 rfl (lv_at hl 0 rfl) ?_
  refine lv_bipush (v := 10) hx hb dX1_init_53 (by decide) ?_
  refine m_newaI (N := 10) hx hb (hts (.arrayClass .int) (by decide +kernel)) hK hP hD hS hA rfl (by decide) ⟨by decide, by decide⟩ dX1_init_55 (fun q_55 H hP hD hS => ?_)
  have hP : va_P D vwCl [ob aC 1 [.ref q_7, .ref q_15, .ref q_23, .ref q_31, .ref q_39, .ref q_47, .null, .int 0, .int 0, .int 0], ar cI q_7 40 (fun _ => 0), ar cI q_15 40 (fun _ => 0), ar cI q_23 10 (fun _ => 0), ar cI q_31 10 (fun _ => 0), ar cI q_39 10 (fun _ => 0), ar cI q_47 10 (fun _ => 0), ar cI q_55 10 (fun _ => 0)] H := hP
  have hD : va_D A [ob aC 1 [.ref q_7, .ref q_15, .ref q_23, .ref q_31, .ref q_39, .ref q_47, .null, .int 0, .int 0, .int 0], ar cI q_7 40 (fun _ => 0), ar cI q_15 40 (fun _ => 0), ar cI q_23 10 (fun _ => 0), ar cI q_31 10 (fun _ => 0), ar cI q_39 10 (fun _ => 0), ar cI q_47 10 (fun _ => 0), ar cI q_55 10 (fun _ => 0)] := hD
  refine W.widen (k := 7) (n := 130) (by decide) (by decide) ?_
  refine va_putF (D := D) (ci := 1) (v := .ref q_55) (ty := .array .int) (C := RX1) (T := TX1) (N := 10) hx hb hts inX1 tyX1 tyX1_ok nmX1 hown hK hP hD hS 0 rfl rfl 6 (by decide) fl30 (fun _ h9 => h9) rfl hmn rfl (by decide +kernel) (rfl) (rfl) (Nat.le_of_ble_eq_true rfl) dX1_init_57 (fun H locs hP hD hS => ?_)
  have hP : va_P D vwCl [ob aC 1 [.ref q_7, .ref q_15, .ref q_23, .ref q_31, .ref q_39, .ref q_47, .ref q_55, .int 0, .int 0, .int 0], ar cI q_7 40 (fun _ => 0), ar cI q_15 40 (fun _ => 0), ar cI q_23 10 (fun _ => 0), ar cI q_31 10 (fun _ => 0), ar cI q_39 10 (fun _ => 0), ar cI q_47 10 (fun _ => 0), ar cI q_55 10 (fun _ => 0)] H := hP
  have hD : va_D A [ob aC 1 [.ref q_7, .ref q_15, .ref q_23, .ref q_31, .ref q_39, .ref q_47, .ref q_55, .int 0, .int 0, .int 0], ar cI q_7 40 (fun _ => 0), ar cI q_15 40 (fun _ => 0), ar cI q_23 10 (fun _ => 0), ar cI q_31 10 (fun _ => 0), ar cI q_39 10 (fun _ => 0), ar cI q_47 10 (fun _ => 0), ar cI q_55 10 (fun _ => 0)] := hD
  refine lv_aload_n hx hb dX1_init_60 rfl (lv_at hl 0 rfl) ?_
  refine lv_iconst (v := 0) hx hb dX1_init_61 (by decide) ?_
  refine va_put (D := D) (ci := 1) (v := .int 0) (ty := .int) (C := RX1) (T := TX1) (N := 10) hx hb hts inX1 tyX1 tyX1_ok nmX1 hown hK hP hD hS 0 rfl rfl 7 (by decide) fl33 (fun _ h9 => h9) rfl (by decide +kernel) (rfl) (rfl) (Nat.le_of_ble_eq_true rfl) dX1_init_62 (fun H locs hP hD hS => ?_)
  have hP : va_P D vwCl [ob aC 1 [.ref q_7, .ref q_15, .ref q_23, .ref q_31, .ref q_39, .ref q_47, .ref q_55, .int 0, .int 0, .int 0], ar cI q_7 40 (fun _ => 0), ar cI q_15 40 (fun _ => 0), ar cI q_23 10 (fun _ => 0), ar cI q_31 10 (fun _ => 0), ar cI q_39 10 (fun _ => 0), ar cI q_47 10 (fun _ => 0), ar cI q_55 10 (fun _ => 0)] H := hP
  have hD : va_D A [ob aC 1 [.ref q_7, .ref q_15, .ref q_23, .ref q_31, .ref q_39, .ref q_47, .ref q_55, .int 0, .int 0, .int 0], ar cI q_7 40 (fun _ => 0), ar cI q_15 40 (fun _ => 0), ar cI q_23 10 (fun _ => 0), ar cI q_31 10 (fun _ => 0), ar cI q_39 10 (fun _ => 0), ar cI q_47 10 (fun _ => 0), ar cI q_55 10 (fun _ => 0)] := hD
  refine lv_aload_n hx hb dX1_init_65 rfl (lv_at hl 0 rfl) ?_
  refine lv_iconst (v := 0) hx hb dX1_init_66 (by decide) ?_
  refine va_put (D := D) (ci := 1) (v := .int 0) (ty := .int) (C := RX1) (T := TX1) (N := 10) hx hb hts inX1 tyX1 tyX1_ok nmX1 hown hK hP hD hS 0 rfl rfl 8 (by decide) fl37 (fun _ h9 => h9) rfl (by decide +kernel) (rfl) (rfl) (Nat.le_of_ble_eq_true rfl) dX1_init_67 (fun H locs hP hD hS => ?_)
  have hP : va_P D vwCl [ob aC 1 [.ref q_7, .ref q_15, .ref q_23, .ref q_31, .ref q_39, .ref q_47, .ref q_55, .int 0, .int 0, .int 0], ar cI q_7 40 (fun _ => 0), ar cI q_15 40 (fun _ => 0), ar cI q_23 10 (fun _ => 0), ar cI q_31 10 (fun _ => 0), ar cI q_39 10 (fun _ => 0), ar cI q_47 10 (fun _ => 0), ar cI q_55 10 (fun _ => 0)] H := hP
  have hD : va_D A [ob aC 1 [.ref q_7, .ref q_15, .ref q_23, .ref q_31, .ref q_39, .ref q_47, .ref q_55, .int 0, .int 0, .int 0], ar cI q_7 40 (fun _ => 0), ar cI q_15 40 (fun _ => 0), ar cI q_23 10 (fun _ => 0), ar cI q_31 10 (fun _ => 0), ar cI q_39 10 (fun _ => 0), ar cI q_47 10 (fun _ => 0), ar cI q_55 10 (fun _ => 0)] := hD
  refine lv_aload_n hx hb dX1_init_70 rfl (lv_at hl 0 rfl) ?_
  refine lv_iconst (v := (-1)) hx hb dX1_init_71 (by decide) ?_
  refine va_put (D := D) (ci := 1) (v := .int (-1)) (ty := .int) (C := RX1) (T := TX1) (N := 10) hx hb hts inX1 tyX1 tyX1_ok nmX1 hown hK hP hD hS 0 rfl rfl 9 (by decide) fl40 (fun _ h9 => h9) rfl (by decide +kernel) (rfl) (rfl) (Nat.le_of_ble_eq_true rfl) dX1_init_72 (fun H locs hP hD hS => ?_)
  have hP : va_P D vwCl [ob aC 1 [.ref q_7, .ref q_15, .ref q_23, .ref q_31, .ref q_39, .ref q_47, .ref q_55, .int 0, .int 0, .int (-1)], ar cI q_7 40 (fun _ => 0), ar cI q_15 40 (fun _ => 0), ar cI q_23 10 (fun _ => 0), ar cI q_31 10 (fun _ => 0), ar cI q_39 10 (fun _ => 0), ar cI q_47 10 (fun _ => 0), ar cI q_55 10 (fun _ => 0)] H := hP
  have hD : va_D A [ob aC 1 [.ref q_7, .ref q_15, .ref q_23, .ref q_31, .ref q_39, .ref q_47, .ref q_55, .int 0, .int 0, .int (-1)], ar cI q_7 40 (fun _ => 0), ar cI q_15 40 (fun _ => 0), ar cI q_23 10 (fun _ => 0), ar cI q_31 10 (fun _ => 0), ar cI q_39 10 (fun _ => 0), ar cI q_47 10 (fun _ => 0), ar cI q_55 10 (fun _ => 0)] := hD
  exact ret (q_7, q_15, q_23, q_31, q_39, q_47, q_55) _ _ _ _ dX1_init_75 (trivial) (hP) (hD) hS
abbrev r_c_X3_init : Room := { frames := 1, cells := 10, slots := 400, locals := 12 }
set_option maxHeartbeats 4000000 in
set_option maxRecDepth 100000 in
theorem c_X3_init (l : Launch) (D : va_G) (cI cZ : ClassId) (aP : Nat)  : MV l yX3_init wsX3_init r_c_X3_init D cI cZ [.ref aP] [ob aP 3 [.null, .null, .null, .null, .null, .null, .null, .null, .null, .null, .int 0]] (fun (u : Nat × Nat × Nat × Nat × Nat × Nat × Nat × Nat × Nat × Nat) => True) (fun (u : Nat × Nat × Nat × Nat × Nat × Nat × Nat × Nat × Nat × Nat) => [ob aP 3 [.ref u.1, .ref u.2.1, .ref u.2.2.1, .ref u.2.2.2.1, .ref u.2.2.2.2.1, .ref u.2.2.2.2.2.1, .ref u.2.2.2.2.2.2.1, .ref u.2.2.2.2.2.2.2.1, .ref u.2.2.2.2.2.2.2.2.1, .ref u.2.2.2.2.2.2.2.2.2, .int 0], ar cI u.1 40 (fun _ => 0), ar cI u.2.1 40 (fun _ => 0), ar cI u.2.2.1 40 (fun _ => 0), ar cI u.2.2.2.1 40 (fun _ => 0), ar cI u.2.2.2.2.1 40 (fun _ => 0), ar cZ u.2.2.2.2.2.1 40 (fun _ => 0), ar cI u.2.2.2.2.2.2.1 40 (fun _ => 0), ar cI u.2.2.2.2.2.2.2.1 40 (fun _ => 0), ar cI u.2.2.2.2.2.2.2.2.1 40 (fun _ => 0), ar cI u.2.2.2.2.2.2.2.2.2 40 (fun _ => 0)]) 10 400 := by
  refine MV.of (cc := cX3_init) (maxL := 1) (by decide) rfl (Nat.le_of_ble_eq_true rfl) ?_
  intro p e s m below meth c A Q hx hb hml hown hts hN hK hA ret hP hD hS ls hl hmn
  have hown : s.vm.findClass RX3 = some m.cls := hown
  have inX3 : ∀ w ∈ wsX30, w ∈ wsX3_init := by decide +kernel
  have fl9 := hts (.fieldLink RX3 9 "AdvanceBook$Papers" "toldDebtors" "[I") (by decide +kernel)
  have fl15 := hts (.fieldLink RX3 15 "AdvanceBook$Papers" "toldCreditors" "[I") (by decide +kernel)
  have fl18 := hts (.fieldLink RX3 18 "AdvanceBook$Papers" "toldCoins" "[I") (by decide +kernel)
  have fl21 := hts (.fieldLink RX3 21 "AdvanceBook$Papers" "toldRanks" "[I") (by decide +kernel)
  have fl24 := hts (.fieldLink RX3 24 "AdvanceBook$Papers" "days" "[I") (by decide +kernel)
  have fl27 := hts (.fieldLink RX3 27 "AdvanceBook$Papers" "copies" "[Z") (by decide +kernel)
  have fl31 := hts (.fieldLink RX3 31 "AdvanceBook$Papers" "debtors" "[I") (by decide +kernel)
  have fl34 := hts (.fieldLink RX3 34 "AdvanceBook$Papers" "creditors" "[I") (by decide +kernel)
  have fl37 := hts (.fieldLink RX3 37 "AdvanceBook$Papers" "ranks" "[I") (by decide +kernel)
  have fl40 := hts (.fieldLink RX3 40 "AdvanceBook$Papers" "lefts" "[I") (by decide +kernel)
  have fl43 := hts (.fieldLink RX3 43 "AdvanceBook$Papers" "size" "I") (by decide +kernel)
  have hP : va_P D vwCl [ob aP 3 [.null, .null, .null, .null, .null, .null, .null, .null, .null, .null, .int 0]] s.heap := hP
  have hD : va_D A [ob aP 3 [.null, .null, .null, .null, .null, .null, .null, .null, .null, .null, .int 0]] := hD
  have hl : lv_has ls 1 [(0, .ref aP)] := hl
  refine lv_aload_n hx hb dX3_init_0 rfl (lv_at hl 0 rfl) ?_
  refine W.objInit hx hb hown (hts (.methodLink RX3 3 objectInit) (by decide +kernel)) (hts (.instanceMethod objectInit) (by decide +kernel)) (hts (.code objectInit ⟨#[0xb1]⟩ 1 none) (by decide +kernel)) rfl (by rw [hml]; exact hl.1) rfl dX3_init_1 (Nat.le_of_ble_eq_true rfl) (Nat.le_of_ble_eq_true rfl) ?_
  refine W.eq (g2 := F0 m 4 ls []) rfl ?_
  refine lv_aload_n hx hb dX3_init_4 rfl (lv_at hl 0 rfl) ?_
  refine lv_bipush (v := 40) hx hb dX3_init_5 (by decide) ?_
  refine m_newaI (N := 40) hx hb (hts (.arrayClass .int) (by decide +kernel)) hK hP hD hS hA rfl (by decide) ⟨by decide, by decide⟩ dX3_init_7 (fun q_7 H hP hD hS => ?_)
  have hP : va_P D vwCl [ob aP 3 [.null, .null, .null, .null, .null, .null, .null, .null, .null, .null, .int 0], ar cI q_7 40 (fun _ => 0)] H := hP
  have hD : va_D A [ob aP 3 [.null, .null, .null, .null, .null, .null, .null, .null, .null, .null, .int 0], ar cI q_7 40 (fun _ => 0)] := hD
  refine W.widen (k := 1) (n := 40) (by decide) (by decide) ?_
  refine va_putF (D := D) (ci := 3) (v := .ref q_7) (ty := .array .int) (C := RX3) (T := TX3) (N := 11) hx hb hts inX3 tyX3 tyX3_ok nmX3 hown hK hP hD hS 0 rfl rfl 0 (by decide) fl9 (fun _ h9 => h9) rfl hmn rfl (by decide +kernel) (rfl) (rfl) (Nat.le_of_ble_eq_true rfl) dX3_init_9 (fun H locs hP hD hS => ?_)
  have hP : va_P D vwCl [ob aP 3 [.ref q_7, .null, .null, .null, .null, .null, .null, .null, .null, .null, .int 0], ar cI q_7 40 (fun _ => 0)] H := hP
  have hD : va_D A [ob aP 3 [.ref q_7, .null, .null, .null, .null, .null, .null, .null, .null, .null, .int 0], ar cI q_7 40 (fun _ => 0)] := hD
  refine lv_aload_n hx hb dX3_init_12 rfl (lv_at hl 0 rfl) ?_
  refine lv_bipush (v := 40) hx hb dX3_init_13 (by decide) ?_
  refine m_newaI (N := 40) hx hb (hts (.arrayClass .int) (by decide +kernel)) hK hP hD hS hA rfl (by decide) ⟨by decide, by decide⟩ dX3_init_15 (fun q_15 H hP hD hS => ?_)
  have hP : va_P D vwCl [ob aP 3 [.ref q_7, .null, .null, .null, .null, .null, .null, .null, .null, .null, .int 0], ar cI q_7 40 (fun _ => 0), ar cI q_15 40 (fun _ => 0)] H := hP
  have hD : va_D A [ob aP 3 [.ref q_7, .null, .null, .null, .null, .null, .null, .null, .null, .null, .int 0], ar cI q_7 40 (fun _ => 0), ar cI q_15 40 (fun _ => 0)] := hD
  refine W.widen (k := 2) (n := 80) (by decide) (by decide) ?_
  refine va_putF (D := D) (ci := 3) (v := .ref q_15) (ty := .array .int) (C := RX3) (T := TX3) (N := 11) hx hb hts inX3 tyX3 tyX3_ok nmX3 hown hK hP hD hS 0 rfl rfl 1 (by decide) fl15 (fun _ h9 => h9) rfl hmn rfl (by decide +kernel) (rfl) (rfl) (Nat.le_of_ble_eq_true rfl) dX3_init_17 (fun H locs hP hD hS => ?_)
  have hP : va_P D vwCl [ob aP 3 [.ref q_7, .ref q_15, .null, .null, .null, .null, .null, .null, .null, .null, .int 0], ar cI q_7 40 (fun _ => 0), ar cI q_15 40 (fun _ => 0)] H := hP
  have hD : va_D A [ob aP 3 [.ref q_7, .ref q_15, .null, .null, .null, .null, .null, .null, .null, .null, .int 0], ar cI q_7 40 (fun _ => 0), ar cI q_15 40 (fun _ => 0)] := hD
  refine lv_aload_n hx hb dX3_init_20 rfl (lv_at hl 0 rfl) ?_
  refine lv_bipush (v := 40) hx hb dX3_init_21 (by decide) ?_
  refine m_newaI (N := 40) hx hb (hts (.arrayClass .int) (by decide +kernel)) hK hP hD hS hA rfl (by decide) ⟨by decide, by decide⟩ dX3_init_23 (fun q_23 H hP hD hS => ?_)
  have hP : va_P D vwCl [ob aP 3 [.ref q_7, .ref q_15, .null, .null, .null, .null, .null, .null, .null, .null, .int 0], ar cI q_7 40 (fun _ => 0), ar cI q_15 40 (fun _ => 0), ar cI q_23 40 (fun _ => 0)] H := hP
  have hD : va_D A [ob aP 3 [.ref q_7, .ref q_15, .null, .null, .null, .null, .null, .null, .null, .null, .int 0], ar cI q_7 40 (fun _ => 0), ar cI q_15 40 (fun _ => 0), ar cI q_23 40 (fun _ => 0)] := hD
  refine W.widen (k := 3) (n := 120) (by decide) (by decide) ?_
  refine va_putF (D := D) (ci := 3) (v := .ref q_23) (ty := .array .int) (C := RX3) (T := TX3) (N := 11) hx hb hts inX3 tyX3 tyX3_ok nmX3 hown hK hP hD hS 0 rfl rfl 2 (by decide) fl18 (fun _ h9 => h9) rfl hmn rfl (by decide +kernel) (rfl) (rfl) (Nat.le_of_ble_eq_true rfl) dX3_init_25 (fun H locs hP hD hS => ?_)
  have hP : va_P D vwCl [ob aP 3 [.ref q_7, .ref q_15, .ref q_23, .null, .null, .null, .null, .null, .null, .null, .int 0], ar cI q_7 40 (fun _ => 0), ar cI q_15 40 (fun _ => 0), ar cI q_23 40 (fun _ => 0)] H := hP
  have hD : va_D A [ob aP 3 [.ref q_7, .ref q_15, .ref q_23, .null, .null, .null, .null, .null, .null, .null, .int 0], ar cI q_7 40 (fun _ => 0), ar cI q_15 40 (fun _ => 0), ar cI q_23 40 (fun _ => 0)] := hD
  refine lv_aload_n hx hb dX3_init_28 rfl (lv_at hl 0 rfl) ?_
  refine lv_bipush (v := 40) hx hb dX3_init_29 (by decide) ?_
  refine m_newaI (N := 40) hx hb (hts (.arrayClass .int) (by decide +kernel)) hK hP hD hS hA rfl (by decide) ⟨by decide, by decide⟩ dX3_init_31 (fun q_31 H hP hD hS => ?_)
  have hP : va_P D vwCl [ob aP 3 [.ref q_7, .ref q_15, .ref q_23, .null, .null, .null, .null, .null, .null, .null, .int 0], ar cI q_7 40 (fun _ => 0), ar cI q_15 40 (fun _ => 0), ar cI q_23 40 (fun _ => 0), ar cI q_31 40 (fun _ => 0)] H := hP
  have hD : va_D A [ob aP 3 [.ref q_7, .ref q_15, .ref q_23, .null, .null, .null, .null, .null, .null, .null, .int 0], ar cI q_7 40 (fun _ => 0), ar cI q_15 40 (fun _ => 0), ar cI q_23 40 (fun _ => 0), ar cI q_31 40 (fun _ => 0)] := hD
  refine W.widen (k := 4) (n := 160) (by decide) (by decide) ?_
  refine va_putF (D := D) (ci := 3) (v := .ref q_31) (ty := .array .int) (C := RX3) (T := TX3) (N := 11) hx hb hts inX3 tyX3 tyX3_ok nmX3 hown hK hP hD hS 0 rfl rfl 3 (by decide) fl21 (fun _ h9 => h9) rfl hmn rfl (by decide +kernel) (rfl) (rfl) (Nat.le_of_ble_eq_true rfl) dX3_init_33 (fun H locs hP hD hS => ?_)
  have hP : va_P D vwCl [ob aP 3 [.ref q_7, .ref q_15, .ref q_23, .ref q_31, .null, .null, .null, .null, .null, .null, .int 0], ar cI q_7 40 (fun _ => 0), ar cI q_15 40 (fun _ => 0), ar cI q_23 40 (fun _ => 0), ar cI q_31 40 (fun _ => 0)] H := hP
  have hD : va_D A [ob aP 3 [.ref q_7, .ref q_15, .ref q_23, .ref q_31, .null, .null, .null, .null, .null, .null, .int 0], ar cI q_7 40 (fun _ => 0), ar cI q_15 40 (fun _ => 0), ar cI q_23 40 (fun _ => 0), ar cI q_31 40 (fun _ => 0)] := hD
  refine lv_aload_n hx hb dX3_init_36 rfl (lv_at hl 0 rfl) ?_
  refine lv_bipush (v := 40) hx hb dX3_init_37 (by decide) ?_
  refine m_newaI (N := 40) hx hb (hts (.arrayClass .int) (by decide +kernel)) hK hP hD hS hA rfl (by decide) ⟨by decide, by decide⟩ dX3_init_39 (fun q_39 H hP hD hS => ?_)
  have hP : va_P D vwCl [ob aP 3 [.ref q_7, .ref q_15, .ref q_23, .ref q_31, .null, .null, .null, .null, .null, .null, .int 0], ar cI q_7 40 (fun _ => 0), ar cI q_15 40 (fun _ => 0), ar cI q_23 40 (fun _ => 0), ar cI q_31 40 (fun _ => 0), ar cI q_39 40 (fun _ => 0)] H := hP
  have hD : va_D A [ob aP 3 [.ref q_7, .ref q_15, .ref q_23, .ref q_31, .null, .null, .null, .null, .null, .null, .int 0], ar cI q_7 40 (fun _ => 0), ar cI q_15 40 (fun _ => 0), ar cI q_23 40 (fun _ => 0), ar cI q_31 40 (fun _ => 0), ar cI q_39 40 (fun _ => 0)] := hD
  refine W.widen (k := 5) (n := 200) (by decide) (by decide) ?_
  refine va_putF (D := D) (ci := 3) (v := .ref q_39) (ty := .array .int) (C := RX3) (T := TX3) (N := 11) hx hb hts inX3 tyX3 tyX3_ok nmX3 hown hK hP hD hS 0 rfl rfl 4 (by decide) fl24 (fun _ h9 => h9) rfl hmn rfl (by decide +kernel) (rfl) (rfl) (Nat.le_of_ble_eq_true rfl) dX3_init_41 (fun H locs hP hD hS => ?_)
  have hP : va_P D vwCl [ob aP 3 [.ref q_7, .ref q_15, .ref q_23, .ref q_31, .ref q_39, .null, .null, .null, .null, .null, .int 0], ar cI q_7 40 (fun _ => 0), ar cI q_15 40 (fun _ => 0), ar cI q_23 40 (fun _ => 0), ar cI q_31 40 (fun _ => 0), ar cI q_39 40 (fun _ => 0)] H := hP
  have hD : va_D A [ob aP 3 [.ref q_7, .ref q_15, .ref q_23, .ref q_31, .ref q_39, .null, .null, .null, .null, .null, .int 0], ar cI q_7 40 (fun _ => 0), ar cI q_15 40 (fun _ => 0), ar cI q_23 40 (fun _ => 0), ar cI q_31 40 (fun _ => 0), ar cI q_39 40 (fun _ => 0)] := hD
  refine lv_aload_n hx hb dX3_init_44 rfl (lv_at hl 0 rfl) ?_
  refine lv_bipush (v := 40) hx hb dX3_init_45 (by decide) ?_
  refine m_newaZ (N := 40) hx hb (hts (.arrayClass .boolean) (by decide +kernel)) hK hP hD hS hA rfl (by decide) ⟨by decide, by decide⟩ dX3_init_47 (fun q_47 H hP hD hS => ?_)
  have hP : va_P D vwCl [ob aP 3 [.ref q_7, .ref q_15, .ref q_23, .ref q_31, .ref q_39, .null, .null, .null, .null, .null, .int 0], ar cI q_7 40 (fun _ => 0), ar cI q_15 40 (fun _ => 0), ar cI q_23 40 (fun _ => 0), ar cI q_31 40 (fun _ => 0), ar cI q_39 40 (fun _ => 0), ar cZ q_47 40 (fun _ => 0)] H := hP
  have hD : va_D A [ob aP 3 [.ref q_7, .ref q_15, .ref q_23, .ref q_31, .ref q_39, .null, .null, .null, .null, .null, .int 0], ar cI q_7 40 (fun _ => 0), ar cI q_15 40 (fun _ => 0), ar cI q_23 40 (fun _ => 0), ar cI q_31 40 (fun _ => 0), ar cI q_39 40 (fun _ => 0), ar cZ q_47 40 (fun _ => 0)] := hD
  refine W.widen (k := 6) (n := 240) (by decide) (by decide) ?_
  refine va_putF (D := D) (ci := 3) (v := .ref q_47) (ty := .array .boolean) (C := RX3) (T := TX3) (N := 11) hx hb hts inX3 tyX3 tyX3_ok nmX3 hown hK hP hD hS 0 rfl rfl 5 (by decide) fl27 (fun _ h9 => h9) rfl hmn rfl (by decide +kernel) (rfl) (rfl) (Nat.le_of_ble_eq_true rfl) dX3_init_49 (fun H locs hP hD hS => ?_)
  have hP : va_P D vwCl [ob aP 3 [.ref q_7, .ref q_15, .ref q_23, .ref q_31, .ref q_39, .ref q_47, .null, .null, .null, .null, .int 0], ar cI q_7 40 (fun _ => 0), ar cI q_15 40 (fun _ => 0), ar cI q_23 40 (fun _ => 0), ar cI q_31 40 (fun _ => 0), ar cI q_39 40 (fun _ => 0), ar cZ q_47 40 (fun _ => 0)] H := hP
  have hD : va_D A [ob aP 3 [.ref q_7, .ref q_15, .ref q_23, .ref q_31, .ref q_39, .ref q_47, .null, .null, .null, .null, .int 0], ar cI q_7 40 (fun _ => 0), ar cI q_15 40 (fun _ => 0), ar cI q_23 40 (fun _ => 0), ar cI q_31 40 (fun _ => 0), ar cI q_39 40 (fun _ => 0), ar cZ q_47 40 (fun _ => 0)] := hD
  refine lv_aload_n hx hb dX3_init_52 rfl (lv_at hl 0 rfl) ?_
  refine lv_bipush (v := 40) hx hb dX3_init_53 (by decide) ?_
  refine m_newaI (N := 40) hx hb (hts (.arrayClass .int) (by decide +kernel)) hK hP hD hS hA rfl (by decide) ⟨by decide, by decide⟩ dX3_init_55 (fun q_55 H hP hD hS => ?_)
  have hP : va_P D vwCl [ob aP 3 [.ref q_7, .ref q_15, .ref q_23, .ref q_31, .ref q_39, .ref q_47, .null, .null, .null, .null, .int 0], ar cI q_7 40 (fun _ => 0), ar cI q_15 40 (fun _ => 0), ar cI q_23 40 (fun _ => 0), ar cI q_31 40 (fun _ => 0), ar cI q_39 40 (fun _ => 0), ar cZ q_47 40 (fun _ => 0), ar cI q_55 40 (fun _ => 0)] H := hP
  have hD : va_D A [ob aP 3 [.ref q_7, .ref q_15, .ref q_23, .ref q_31, .ref q_39, .ref q_47, .null, .null, .null, .null, .int 0], ar cI q_7 40 (fun _ => 0), ar cI q_15 40 (fun _ => 0), ar cI q_23 40 (fun _ => 0), ar cI q_31 40 (fun _ => 0), ar cI q_39 40 (fun _ => 0), ar cZ q_47 40 (fun _ => 0), ar cI q_55 40 (fun _ => 0)] := hD
  refine W.widen (k := 7) (n := 280) (by decide) (by decide) ?_
  refine va_putF (D := D) (ci := 3) (v := .ref q_55) (ty := .array .int) (C := RX3) (T := TX3) (N := 11) hx hb hts inX3 tyX3 tyX3_ok nmX3 hown hK hP hD hS 0 rfl rfl 6 (by decide) fl31 (fun _ h9 => h9) rfl hmn rfl (by decide +kernel) (rfl) (rfl) (Nat.le_of_ble_eq_true rfl) dX3_init_57 (fun H locs hP hD hS => ?_)
  have hP : va_P D vwCl [ob aP 3 [.ref q_7, .ref q_15, .ref q_23, .ref q_31, .ref q_39, .ref q_47, .ref q_55, .null, .null, .null, .int 0], ar cI q_7 40 (fun _ => 0), ar cI q_15 40 (fun _ => 0), ar cI q_23 40 (fun _ => 0), ar cI q_31 40 (fun _ => 0), ar cI q_39 40 (fun _ => 0), ar cZ q_47 40 (fun _ => 0), ar cI q_55 40 (fun _ => 0)] H := hP
  have hD : va_D A [ob aP 3 [.ref q_7, .ref q_15, .ref q_23, .ref q_31, .ref q_39, .ref q_47, .ref q_55, .null, .null, .null, .int 0], ar cI q_7 40 (fun _ => 0), ar cI q_15 40 (fun _ => 0), ar cI q_23 40 (fun _ => 0), ar cI q_31 40 (fun _ => 0), ar cI q_39 40 (fun _ => 0), ar cZ q_47 40 (fun _ => 0), ar cI q_55 40 (fun _ => 0)] := hD
  refine lv_aload_n hx hb dX3_init_60 rfl (lv_at hl 0 rfl) ?_
  refine lv_bipush (v := 40) hx hb dX3_init_61 (by decide) ?_
  refine m_newaI (N := 40) hx hb (hts (.arrayClass .int) (by decide +kernel)) hK hP hD hS hA rfl (by decide) ⟨by decide, by decide⟩ dX3_init_63 (fun q_63 H hP hD hS => ?_)
  have hP : va_P D vwCl [ob aP 3 [.ref q_7, .ref q_15, .ref q_23, .ref q_31, .ref q_39, .ref q_47, .ref q_55, .null, .null, .null, .int 0], ar cI q_7 40 (fun _ => 0), ar cI q_15 40 (fun _ => 0), ar cI q_23 40 (fun _ => 0), ar cI q_31 40 (fun _ => 0), ar cI q_39 40 (fun _ => 0), ar cZ q_47 40 (fun _ => 0), ar cI q_55 40 (fun _ => 0), ar cI q_63 40 (fun _ => 0)] H := hP
  have hD : va_D A [ob aP 3 [.ref q_7, .ref q_15, .ref q_23, .ref q_31, .ref q_39, .ref q_47, .ref q_55, .null, .null, .null, .int 0], ar cI q_7 40 (fun _ => 0), ar cI q_15 40 (fun _ => 0), ar cI q_23 40 (fun _ => 0), ar cI q_31 40 (fun _ => 0), ar cI q_39 40 (fun _ => 0), ar cZ q_47 40 (fun _ => 0), ar cI q_55 40 (fun _ => 0), ar cI q_63 40 (fun _ => 0)] := hD
  refine W.widen (k := 8) (n := 320) (by decide) (by decide) ?_
  refine va_putF (D := D) (ci := 3) (v := .ref q_63) (ty := .array .int) (C := RX3) (T := TX3) (N := 11) hx hb hts inX3 tyX3 tyX3_ok nmX3 hown hK hP hD hS 0 rfl rfl 7 (by decide) fl34 (fun _ h9 => h9) rfl hmn rfl (by decide +kernel) (rfl) (rfl) (Nat.le_of_ble_eq_true rfl) dX3_init_65 (fun H locs hP hD hS => ?_)
  have hP : va_P D vwCl [ob aP 3 [.ref q_7, .ref q_15, .ref q_23, .ref q_31, .ref q_39, .ref q_47, .ref q_55, .ref q_63, .null, .null, .int 0], ar cI q_7 40 (fun _ => 0), ar cI q_15 40 (fun _ => 0), ar cI q_23 40 (fun _ => 0), ar cI q_31 40 (fun _ => 0), ar cI q_39 40 (fun _ => 0), ar cZ q_47 40 (fun _ => 0), ar cI q_55 40 (fun _ => 0), ar cI q_63 40 (fun _ => 0)] H := hP
  have hD : va_D A [ob aP 3 [.ref q_7, .ref q_15, .ref q_23, .ref q_31, .ref q_39, .ref q_47, .ref q_55, .ref q_63, .null, .null, .int 0], ar cI q_7 40 (fun _ => 0), ar cI q_15 40 (fun _ => 0), ar cI q_23 40 (fun _ => 0), ar cI q_31 40 (fun _ => 0), ar cI q_39 40 (fun _ => 0), ar cZ q_47 40 (fun _ => 0), ar cI q_55 40 (fun _ => 0), ar cI q_63 40 (fun _ => 0)] := hD
  refine lv_aload_n hx hb dX3_init_68 rfl (lv_at hl 0 rfl) ?_
  refine lv_bipush (v := 40) hx hb dX3_init_69 (by decide) ?_
  refine m_newaI (N := 40) hx hb (hts (.arrayClass .int) (by decide +kernel)) hK hP hD hS hA rfl (by decide) ⟨by decide, by decide⟩ dX3_init_71 (fun q_71 H hP hD hS => ?_)
  have hP : va_P D vwCl [ob aP 3 [.ref q_7, .ref q_15, .ref q_23, .ref q_31, .ref q_39, .ref q_47, .ref q_55, .ref q_63, .null, .null, .int 0], ar cI q_7 40 (fun _ => 0), ar cI q_15 40 (fun _ => 0), ar cI q_23 40 (fun _ => 0), ar cI q_31 40 (fun _ => 0), ar cI q_39 40 (fun _ => 0), ar cZ q_47 40 (fun _ => 0), ar cI q_55 40 (fun _ => 0), ar cI q_63 40 (fun _ => 0), ar cI q_71 40 (fun _ => 0)] H := hP
  have hD : va_D A [ob aP 3 [.ref q_7, .ref q_15, .ref q_23, .ref q_31, .ref q_39, .ref q_47, .ref q_55, .ref q_63, .null, .null, .int 0], ar cI q_7 40 (fun _ => 0), ar cI q_15 40 (fun _ => 0), ar cI q_23 40 (fun _ => 0), ar cI q_31 40 (fun _ => 0), ar cI q_39 40 (fun _ => 0), ar cZ q_47 40 (fun _ => 0), ar cI q_55 40 (fun _ => 0), ar cI q_63 40 (fun _ => 0), ar cI q_71 40 (fun _ => 0)] := hD
  refine W.widen (k := 9) (n := 360) (by decide) (by decide) ?_
  refine va_putF (D := D) (ci := 3) (v := .ref q_71) (ty := .array .int) (C := RX3) (T := TX3) (N := 11) hx hb hts inX3 tyX3 tyX3_ok nmX3 hown hK hP hD hS 0 rfl rfl 8 (by decide) fl37 (fun _ h9 => h9) rfl hmn rfl (by decide +kernel) (rfl) (rfl) (Nat.le_of_ble_eq_true rfl) dX3_init_73 (fun H locs hP hD hS => ?_)
  have hP : va_P D vwCl [ob aP 3 [.ref q_7, .ref q_15, .ref q_23, .ref q_31, .ref q_39, .ref q_47, .ref q_55, .ref q_63, .ref q_71, .null, .int 0], ar cI q_7 40 (fun _ => 0), ar cI q_15 40 (fun _ => 0), ar cI q_23 40 (fun _ => 0), ar cI q_31 40 (fun _ => 0), ar cI q_39 40 (fun _ => 0), ar cZ q_47 40 (fun _ => 0), ar cI q_55 40 (fun _ => 0), ar cI q_63 40 (fun _ => 0), ar cI q_71 40 (fun _ => 0)] H := hP
  have hD : va_D A [ob aP 3 [.ref q_7, .ref q_15, .ref q_23, .ref q_31, .ref q_39, .ref q_47, .ref q_55, .ref q_63, .ref q_71, .null, .int 0], ar cI q_7 40 (fun _ => 0), ar cI q_15 40 (fun _ => 0), ar cI q_23 40 (fun _ => 0), ar cI q_31 40 (fun _ => 0), ar cI q_39 40 (fun _ => 0), ar cZ q_47 40 (fun _ => 0), ar cI q_55 40 (fun _ => 0), ar cI q_63 40 (fun _ => 0), ar cI q_71 40 (fun _ => 0)] := hD
  refine lv_aload_n hx hb dX3_init_76 rfl (lv_at hl 0 rfl) ?_
  refine lv_bipush (v := 40) hx hb dX3_init_77 (by decide) ?_
  refine m_newaI (N := 40) hx hb (hts (.arrayClass .int) (by decide +kernel)) hK hP hD hS hA rfl (by decide) ⟨by decide, by decide⟩ dX3_init_79 (fun q_79 H hP hD hS => ?_)
  have hP : va_P D vwCl [ob aP 3 [.ref q_7, .ref q_15, .ref q_23, .ref q_31, .ref q_39, .ref q_47, .ref q_55, .ref q_63, .ref q_71, .null, .int 0], ar cI q_7 40 (fun _ => 0), ar cI q_15 40 (fun _ => 0), ar cI q_23 40 (fun _ => 0), ar cI q_31 40 (fun _ => 0), ar cI q_39 40 (fun _ => 0), ar cZ q_47 40 (fun _ => 0), ar cI q_55 40 (fun _ => 0), ar cI q_63 40 (fun _ => 0), ar cI q_71 40 (fun _ => 0), ar cI q_79 40 (fun _ => 0)] H := hP
  have hD : va_D A [ob aP 3 [.ref q_7, .ref q_15, .ref q_23, .ref q_31, .ref q_39, .ref q_47, .ref q_55, .ref q_63, .ref q_71, .null, .int 0], ar cI q_7 40 (fun _ => 0), ar cI q_15 40 (fun _ => 0), ar cI q_23 40 (fun _ => 0), ar cI q_31 40 (fun _ => 0), ar cI q_39 40 (fun _ => 0), ar cZ q_47 40 (fun _ => 0), ar cI q_55 40 (fun _ => 0), ar cI q_63 40 (fun _ => 0), ar cI q_71 40 (fun _ => 0), ar cI q_79 40 (fun _ => 0)] := hD
  refine W.widen (k := 10) (n := 400) (by decide) (by decide) ?_
  refine va_putF (D := D) (ci := 3) (v := .ref q_79) (ty := .array .int) (C := RX3) (T := TX3) (N := 11) hx hb hts inX3 tyX3 tyX3_ok nmX3 hown hK hP hD hS 0 rfl rfl 9 (by decide) fl40 (fun _ h9 => h9) rfl hmn rfl (by decide +kernel) (rfl) (rfl) (Nat.le_of_ble_eq_true rfl) dX3_init_81 (fun H locs hP hD hS => ?_)
  have hP : va_P D vwCl [ob aP 3 [.ref q_7, .ref q_15, .ref q_23, .ref q_31, .ref q_39, .ref q_47, .ref q_55, .ref q_63, .ref q_71, .ref q_79, .int 0], ar cI q_7 40 (fun _ => 0), ar cI q_15 40 (fun _ => 0), ar cI q_23 40 (fun _ => 0), ar cI q_31 40 (fun _ => 0), ar cI q_39 40 (fun _ => 0), ar cZ q_47 40 (fun _ => 0), ar cI q_55 40 (fun _ => 0), ar cI q_63 40 (fun _ => 0), ar cI q_71 40 (fun _ => 0), ar cI q_79 40 (fun _ => 0)] H := hP
  have hD : va_D A [ob aP 3 [.ref q_7, .ref q_15, .ref q_23, .ref q_31, .ref q_39, .ref q_47, .ref q_55, .ref q_63, .ref q_71, .ref q_79, .int 0], ar cI q_7 40 (fun _ => 0), ar cI q_15 40 (fun _ => 0), ar cI q_23 40 (fun _ => 0), ar cI q_31 40 (fun _ => 0), ar cI q_39 40 (fun _ => 0), ar cZ q_47 40 (fun _ => 0), ar cI q_55 40 (fun _ => 0), ar cI q_63 40 (fun _ => 0), ar cI q_71 40 (fun _ => 0), ar cI q_79 40 (fun _ => 0)] := hD
  refine lv_aload_n hx hb dX3_init_84 rfl (lv_at hl 0 rfl) ?_
  refine lv_iconst (v := 0) hx hb dX3_init_85 (by decide) ?_
  refine va_put (D := D) (ci := 3) (v := .int 0) (ty := .int) (C := RX3) (T := TX3) (N := 11) hx hb hts inX3 tyX3 tyX3_ok nmX3 hown hK hP hD hS 0 rfl rfl 10 (by decide) fl43 (fun _ h9 => h9) rfl (by decide +kernel) (rfl) (rfl) (Nat.le_of_ble_eq_true rfl) dX3_init_86 (fun H locs hP hD hS => ?_)
  have hP : va_P D vwCl [ob aP 3 [.ref q_7, .ref q_15, .ref q_23, .ref q_31, .ref q_39, .ref q_47, .ref q_55, .ref q_63, .ref q_71, .ref q_79, .int 0], ar cI q_7 40 (fun _ => 0), ar cI q_15 40 (fun _ => 0), ar cI q_23 40 (fun _ => 0), ar cI q_31 40 (fun _ => 0), ar cI q_39 40 (fun _ => 0), ar cZ q_47 40 (fun _ => 0), ar cI q_55 40 (fun _ => 0), ar cI q_63 40 (fun _ => 0), ar cI q_71 40 (fun _ => 0), ar cI q_79 40 (fun _ => 0)] H := hP
  have hD : va_D A [ob aP 3 [.ref q_7, .ref q_15, .ref q_23, .ref q_31, .ref q_39, .ref q_47, .ref q_55, .ref q_63, .ref q_71, .ref q_79, .int 0], ar cI q_7 40 (fun _ => 0), ar cI q_15 40 (fun _ => 0), ar cI q_23 40 (fun _ => 0), ar cI q_31 40 (fun _ => 0), ar cI q_39 40 (fun _ => 0), ar cZ q_47 40 (fun _ => 0), ar cI q_55 40 (fun _ => 0), ar cI q_63 40 (fun _ => 0), ar cI q_71 40 (fun _ => 0), ar cI q_79 40 (fun _ => 0)] := hD
  exact ret (q_7, q_15, q_23, q_31, q_39, q_47, q_55, q_63, q_71, q_79) _ _ _ _ dX3_init_89 (trivial) (hP) (hD) hS
abbrev r_c_X4_init : Room := { frames := 1, cells := 1, slots := 300, locals := 12 }
set_option maxHeartbeats 4000000 in
set_option maxRecDepth 100000 in
theorem c_X4_init (l : Launch) (D : va_G) (cI cZ : ClassId) (aR : Nat)  : MV l yX4_init wsX4_init r_c_X4_init D cI cZ [.ref aR] [ob aR 4 [.null, .int 0, .int 0, .int 0, .int 0, .int 0, .int 0]] (fun (u : Nat) => True) (fun (u : Nat) => [ob aR 4 [.ref u, .int 0, .int 5, .int 0, .int 0, .int 0, .int (-1)], ar cI u 300 (fun _ => 0)]) 1 300 := by
  refine MV.of (cc := cX4_init) (maxL := 1) (by decide) rfl (Nat.le_of_ble_eq_true rfl) ?_
  intro p e s m below meth c A Q hx hb hml hown hts hN hK hA ret hP hD hS ls hl hmn
  have hown : s.vm.findClass RX4 = some m.cls := hown
  have inX4 : ∀ w ∈ wsX40, w ∈ wsX4_init := by decide +kernel
  have fl9 := hts (.fieldLink RX4 9 "AdvanceBook$Reader" "text" "[I") (by decide +kernel)
  have fl15 := hts (.fieldLink RX4 15 "AdvanceBook$Reader" "length" "I") (by decide +kernel)
  have fl19 := hts (.fieldLink RX4 19 "AdvanceBook$Reader" "kind" "I") (by decide +kernel)
  have fl22 := hts (.fieldLink RX4 22 "AdvanceBook$Reader" "start" "I") (by decide +kernel)
  have fl25 := hts (.fieldLink RX4 25 "AdvanceBook$Reader" "next" "I") (by decide +kernel)
  have fl28 := hts (.fieldLink RX4 28 "AdvanceBook$Reader" "fault" "I") (by decide +kernel)
  have fl31 := hts (.fieldLink RX4 31 "AdvanceBook$Reader" "faultPlace" "I") (by decide +kernel)
  have hP : va_P D vwCl [ob aR 4 [.null, .int 0, .int 0, .int 0, .int 0, .int 0, .int 0]] s.heap := hP
  have hD : va_D A [ob aR 4 [.null, .int 0, .int 0, .int 0, .int 0, .int 0, .int 0]] := hD
  have hl : lv_has ls 1 [(0, .ref aR)] := hl
  refine lv_aload_n hx hb dX4_init_0 rfl (lv_at hl 0 rfl) ?_
  refine W.objInit hx hb hown (hts (.methodLink RX4 3 objectInit) (by decide +kernel)) (hts (.instanceMethod objectInit) (by decide +kernel)) (hts (.code objectInit ⟨#[0xb1]⟩ 1 none) (by decide +kernel)) rfl (by rw [hml]; exact hl.1) rfl dX4_init_1 (Nat.le_of_ble_eq_true rfl) (Nat.le_of_ble_eq_true rfl) ?_
  refine W.eq (g2 := F0 m 4 ls []) rfl ?_
  refine lv_aload_n hx hb dX4_init_4 rfl (lv_at hl 0 rfl) ?_
  refine lv_sipush (v := 300) hx hb dX4_init_5 (by decide) ?_
  refine m_newaI (N := 300) hx hb (hts (.arrayClass .int) (by decide +kernel)) hK hP hD hS hA rfl (by decide) ⟨by decide, by decide⟩ dX4_init_8 (fun q_8 H hP hD hS => ?_)
  have hP : va_P D vwCl [ob aR 4 [.null, .int 0, .int 0, .int 0, .int 0, .int 0, .int 0], ar cI q_8 300 (fun _ => 0)] H := hP
  have hD : va_D A [ob aR 4 [.null, .int 0, .int 0, .int 0, .int 0, .int 0, .int 0], ar cI q_8 300 (fun _ => 0)] := hD
  refine W.widen (k := 1) (n := 300) (by decide) (by decide) ?_
  refine va_putF (D := D) (ci := 4) (v := .ref q_8) (ty := .array .int) (C := RX4) (T := TX4) (N := 7) hx hb hts inX4 tyX4 tyX4_ok nmX4 hown hK hP hD hS 0 rfl rfl 0 (by decide) fl9 (fun _ h9 => h9) rfl hmn rfl (by decide +kernel) (rfl) (rfl) (Nat.le_of_ble_eq_true rfl) dX4_init_10 (fun H locs hP hD hS => ?_)
  have hP : va_P D vwCl [ob aR 4 [.ref q_8, .int 0, .int 0, .int 0, .int 0, .int 0, .int 0], ar cI q_8 300 (fun _ => 0)] H := hP
  have hD : va_D A [ob aR 4 [.ref q_8, .int 0, .int 0, .int 0, .int 0, .int 0, .int 0], ar cI q_8 300 (fun _ => 0)] := hD
  refine lv_aload_n hx hb dX4_init_13 rfl (lv_at hl 0 rfl) ?_
  refine lv_iconst (v := 0) hx hb dX4_init_14 (by decide) ?_
  refine va_put (D := D) (ci := 4) (v := .int 0) (ty := .int) (C := RX4) (T := TX4) (N := 7) hx hb hts inX4 tyX4 tyX4_ok nmX4 hown hK hP hD hS 0 rfl rfl 1 (by decide) fl15 (fun _ h9 => h9) rfl (by decide +kernel) (rfl) (rfl) (Nat.le_of_ble_eq_true rfl) dX4_init_15 (fun H locs hP hD hS => ?_)
  have hP : va_P D vwCl [ob aR 4 [.ref q_8, .int 0, .int 0, .int 0, .int 0, .int 0, .int 0], ar cI q_8 300 (fun _ => 0)] H := hP
  have hD : va_D A [ob aR 4 [.ref q_8, .int 0, .int 0, .int 0, .int 0, .int 0, .int 0], ar cI q_8 300 (fun _ => 0)] := hD
  refine lv_aload_n hx hb dX4_init_18 rfl (lv_at hl 0 rfl) ?_
  refine lv_iconst (v := 5) hx hb dX4_init_19 (by decide) ?_
  refine va_put (D := D) (ci := 4) (v := .int 5) (ty := .int) (C := RX4) (T := TX4) (N := 7) hx hb hts inX4 tyX4 tyX4_ok nmX4 hown hK hP hD hS 0 rfl rfl 2 (by decide) fl19 (fun _ h9 => h9) rfl (by decide +kernel) (rfl) (rfl) (Nat.le_of_ble_eq_true rfl) dX4_init_20 (fun H locs hP hD hS => ?_)
  have hP : va_P D vwCl [ob aR 4 [.ref q_8, .int 0, .int 5, .int 0, .int 0, .int 0, .int 0], ar cI q_8 300 (fun _ => 0)] H := hP
  have hD : va_D A [ob aR 4 [.ref q_8, .int 0, .int 5, .int 0, .int 0, .int 0, .int 0], ar cI q_8 300 (fun _ => 0)] := hD
  refine lv_aload_n hx hb dX4_init_23 rfl (lv_at hl 0 rfl) ?_
  refine lv_iconst (v := 0) hx hb dX4_init_24 (by decide) ?_
  refine va_put (D := D) (ci := 4) (v := .int 0) (ty := .int) (C := RX4) (T := TX4) (N := 7) hx hb hts inX4 tyX4 tyX4_ok nmX4 hown hK hP hD hS 0 rfl rfl 3 (by decide) fl22 (fun _ h9 => h9) rfl (by decide +kernel) (rfl) (rfl) (Nat.le_of_ble_eq_true rfl) dX4_init_25 (fun H locs hP hD hS => ?_)
  have hP : va_P D vwCl [ob aR 4 [.ref q_8, .int 0, .int 5, .int 0, .int 0, .int 0, .int 0], ar cI q_8 300 (fun _ => 0)] H := hP
  have hD : va_D A [ob aR 4 [.ref q_8, .int 0, .int 5, .int 0, .int 0, .int 0, .int 0], ar cI q_8 300 (fun _ => 0)] := hD
  refine lv_aload_n hx hb dX4_init_28 rfl (lv_at hl 0 rfl) ?_
  refine lv_iconst (v := 0) hx hb dX4_init_29 (by decide) ?_
  refine va_put (D := D) (ci := 4) (v := .int 0) (ty := .int) (C := RX4) (T := TX4) (N := 7) hx hb hts inX4 tyX4 tyX4_ok nmX4 hown hK hP hD hS 0 rfl rfl 4 (by decide) fl25 (fun _ h9 => h9) rfl (by decide +kernel) (rfl) (rfl) (Nat.le_of_ble_eq_true rfl) dX4_init_30 (fun H locs hP hD hS => ?_)
  have hP : va_P D vwCl [ob aR 4 [.ref q_8, .int 0, .int 5, .int 0, .int 0, .int 0, .int 0], ar cI q_8 300 (fun _ => 0)] H := hP
  have hD : va_D A [ob aR 4 [.ref q_8, .int 0, .int 5, .int 0, .int 0, .int 0, .int 0], ar cI q_8 300 (fun _ => 0)] := hD
  refine lv_aload_n hx hb dX4_init_33 rfl (lv_at hl 0 rfl) ?_
  refine lv_iconst (v := 0) hx hb dX4_init_34 (by decide) ?_
  refine va_put (D := D) (ci := 4) (v := .int 0) (ty := .int) (C := RX4) (T := TX4) (N := 7) hx hb hts inX4 tyX4 tyX4_ok nmX4 hown hK hP hD hS 0 rfl rfl 5 (by decide) fl28 (fun _ h9 => h9) rfl (by decide +kernel) (rfl) (rfl) (Nat.le_of_ble_eq_true rfl) dX4_init_35 (fun H locs hP hD hS => ?_)
  have hP : va_P D vwCl [ob aR 4 [.ref q_8, .int 0, .int 5, .int 0, .int 0, .int 0, .int 0], ar cI q_8 300 (fun _ => 0)] H := hP
  have hD : va_D A [ob aR 4 [.ref q_8, .int 0, .int 5, .int 0, .int 0, .int 0, .int 0], ar cI q_8 300 (fun _ => 0)] := hD
  refine lv_aload_n hx hb dX4_init_38 rfl (lv_at hl 0 rfl) ?_
  refine lv_iconst (v := (-1)) hx hb dX4_init_39 (by decide) ?_
  refine va_put (D := D) (ci := 4) (v := .int (-1)) (ty := .int) (C := RX4) (T := TX4) (N := 7) hx hb hts inX4 tyX4 tyX4_ok nmX4 hown hK hP hD hS 0 rfl rfl 6 (by decide) fl31 (fun _ h9 => h9) rfl (by decide +kernel) (rfl) (rfl) (Nat.le_of_ble_eq_true rfl) dX4_init_40 (fun H locs hP hD hS => ?_)
  have hP : va_P D vwCl [ob aR 4 [.ref q_8, .int 0, .int 5, .int 0, .int 0, .int 0, .int (-1)], ar cI q_8 300 (fun _ => 0)] H := hP
  have hD : va_D A [ob aR 4 [.ref q_8, .int 0, .int 5, .int 0, .int 0, .int 0, .int (-1)], ar cI q_8 300 (fun _ => 0)] := hD
  exact ret q_8 _ _ _ _ dX4_init_43 (trivial) (hP) (hD) hS
abbrev r_c_X5_init : Room := { frames := 1, cells := 1, slots := 300, locals := 12 }
set_option maxHeartbeats 4000000 in
set_option maxRecDepth 100000 in
theorem c_X5_init (l : Launch) (D : va_G) (cI cZ : ClassId) (aTA : Nat)  : MV l yX5_init wsX5_init r_c_X5_init D cI cZ [.ref aTA] [ob aTA 5 [.null, .int 0]] (fun (u : Nat) => True) (fun (u : Nat) => [ob aTA 5 [.ref u, .int 0], ar cI u 300 (fun _ => 0)]) 1 300 := by
  refine MV.of (cc := cX5_init) (maxL := 1) (by decide) rfl (Nat.le_of_ble_eq_true rfl) ?_
  intro p e s m below meth c A Q hx hb hml hown hts hN hK hA ret hP hD hS ls hl hmn
  have hown : s.vm.findClass RX5 = some m.cls := hown
  have inX5 : ∀ w ∈ wsX50, w ∈ wsX5_init := by decide +kernel
  have fl9 := hts (.fieldLink RX5 9 "AdvanceBook$Tape" "bytes" "[I") (by decide +kernel)
  have fl15 := hts (.fieldLink RX5 15 "AdvanceBook$Tape" "length" "I") (by decide +kernel)
  have hP : va_P D vwCl [ob aTA 5 [.null, .int 0]] s.heap := hP
  have hD : va_D A [ob aTA 5 [.null, .int 0]] := hD
  have hl : lv_has ls 1 [(0, .ref aTA)] := hl
  refine lv_aload_n hx hb dX5_init_0 rfl (lv_at hl 0 rfl) ?_
  refine W.objInit hx hb hown (hts (.methodLink RX5 3 objectInit) (by decide +kernel)) (hts (.instanceMethod objectInit) (by decide +kernel)) (hts (.code objectInit ⟨#[0xb1]⟩ 1 none) (by decide +kernel)) rfl (by rw [hml]; exact hl.1) rfl dX5_init_1 (Nat.le_of_ble_eq_true rfl) (Nat.le_of_ble_eq_true rfl) ?_
  refine W.eq (g2 := F0 m 4 ls []) rfl ?_
  refine lv_aload_n hx hb dX5_init_4 rfl (lv_at hl 0 rfl) ?_
  refine lv_sipush (v := 300) hx hb dX5_init_5 (by decide) ?_
  refine m_newaI (N := 300) hx hb (hts (.arrayClass .int) (by decide +kernel)) hK hP hD hS hA rfl (by decide) ⟨by decide, by decide⟩ dX5_init_8 (fun q_8 H hP hD hS => ?_)
  have hP : va_P D vwCl [ob aTA 5 [.null, .int 0], ar cI q_8 300 (fun _ => 0)] H := hP
  have hD : va_D A [ob aTA 5 [.null, .int 0], ar cI q_8 300 (fun _ => 0)] := hD
  refine W.widen (k := 1) (n := 300) (by decide) (by decide) ?_
  refine va_putF (D := D) (ci := 5) (v := .ref q_8) (ty := .array .int) (C := RX5) (T := TX5) (N := 2) hx hb hts inX5 tyX5 tyX5_ok nmX5 hown hK hP hD hS 0 rfl rfl 0 (by decide) fl9 (fun _ h9 => h9) rfl hmn rfl (by decide +kernel) (rfl) (rfl) (Nat.le_of_ble_eq_true rfl) dX5_init_10 (fun H locs hP hD hS => ?_)
  have hP : va_P D vwCl [ob aTA 5 [.ref q_8, .int 0], ar cI q_8 300 (fun _ => 0)] H := hP
  have hD : va_D A [ob aTA 5 [.ref q_8, .int 0], ar cI q_8 300 (fun _ => 0)] := hD
  refine lv_aload_n hx hb dX5_init_13 rfl (lv_at hl 0 rfl) ?_
  refine lv_iconst (v := 0) hx hb dX5_init_14 (by decide) ?_
  refine va_put (D := D) (ci := 5) (v := .int 0) (ty := .int) (C := RX5) (T := TX5) (N := 2) hx hb hts inX5 tyX5 tyX5_ok nmX5 hown hK hP hD hS 0 rfl rfl 1 (by decide) fl15 (fun _ h9 => h9) rfl (by decide +kernel) (rfl) (rfl) (Nat.le_of_ble_eq_true rfl) dX5_init_15 (fun H locs hP hD hS => ?_)
  have hP : va_P D vwCl [ob aTA 5 [.ref q_8, .int 0], ar cI q_8 300 (fun _ => 0)] H := hP
  have hD : va_D A [ob aTA 5 [.ref q_8, .int 0], ar cI q_8 300 (fun _ => 0)] := hD
  exact ret q_8 _ _ _ _ dX5_init_18 (trivial) (hP) (hD) hS
abbrev r_c_X2_init : Room := { frames := 2, cells := 2, slots := 8, locals := 43 }
set_option maxHeartbeats 4000000 in
set_option maxRecDepth 100000 in
theorem c_X2_init (l : Launch) (D : va_G) (cI cZ : ClassId) (aD : Nat)  : MV l yX2_init wsX2_init r_c_X2_init D cI cZ [.ref aD] [ob aD 2 [.null, .null, .int 0, .int 0, .int 0]] (fun (u : Nat × Nat × (Nat → Int32) × (Nat → Int32)) => (∀ r, r < 4 → u.2.2.1 r = -1) ∧ ∀ r, r < 4 → u.2.2.2 r = -1) (fun (u : Nat × Nat × (Nat → Int32) × (Nat → Int32)) => [ob aD 2 [.ref u.1, .ref u.2.1, .int (-1), .int (-1), .int 0], ar cI u.1 4 u.2.2.1, ar cI u.2.1 4 u.2.2.2]) 2 8 := by
  refine MV.of (cc := cX2_init) (maxL := 1) (by decide) rfl (Nat.le_of_ble_eq_true rfl) ?_
  intro p e s m below meth c A Q hx hb hml hown hts hN hK hA ret hP hD hS ls hl hmn
  have hown : s.vm.findClass RX2 = some m.cls := hown
  have inX2 : ∀ w ∈ wsX20, w ∈ wsX2_init := by decide +kernel
  have fl9 := hts (.fieldLink RX2 9 "AdvanceBook$Decree" "cuts" "[I") (by decide +kernel)
  have fl15 := hts (.fieldLink RX2 15 "AdvanceBook$Decree" "moves" "[I") (by decide +kernel)
  have hP : va_P D vwCl [ob aD 2 [.null, .null, .int 0, .int 0, .int 0]] s.heap := hP
  have hD : va_D A [ob aD 2 [.null, .null, .int 0, .int 0, .int 0]] := hD
  have hl : lv_has ls 1 [(0, .ref aD)] := hl
  refine lv_aload_n hx hb dX2_init_0 rfl (lv_at hl 0 rfl) ?_
  refine W.objInit hx hb hown (hts (.methodLink RX2 3 objectInit) (by decide +kernel)) (hts (.instanceMethod objectInit) (by decide +kernel)) (hts (.code objectInit ⟨#[0xb1]⟩ 1 none) (by decide +kernel)) rfl (by rw [hml]; exact hl.1) rfl dX2_init_1 (Nat.le_of_ble_eq_true rfl) (Nat.le_of_ble_eq_true rfl) ?_
  refine W.eq (g2 := F0 m 4 ls []) rfl ?_
  refine lv_aload_n hx hb dX2_init_4 rfl (lv_at hl 0 rfl) ?_
  refine lv_iconst (v := 4) hx hb dX2_init_5 (by decide) ?_
  refine m_newaI (N := 4) hx hb (hts (.arrayClass .int) (by decide +kernel)) hK hP hD hS hA rfl (by decide) ⟨by decide, by decide⟩ dX2_init_6 (fun q_6 H hP hD hS => ?_)
  have hP : va_P D vwCl [ob aD 2 [.null, .null, .int 0, .int 0, .int 0], ar cI q_6 4 (fun _ => 0)] H := hP
  have hD : va_D A [ob aD 2 [.null, .null, .int 0, .int 0, .int 0], ar cI q_6 4 (fun _ => 0)] := hD
  refine W.widen (k := 1) (n := 4) (by decide) (by decide) ?_
  refine va_putF (D := D) (ci := 2) (v := .ref q_6) (ty := .array .int) (C := RX2) (T := TX2) (N := 5) hx hb hts inX2 tyX2 tyX2_ok nmX2 hown hK hP hD hS 0 rfl rfl 0 (by decide) fl9 (fun _ h9 => h9) rfl hmn rfl (by decide +kernel) (rfl) (rfl) (Nat.le_of_ble_eq_true rfl) dX2_init_8 (fun H locs hP hD hS => ?_)
  have hP : va_P D vwCl [ob aD 2 [.ref q_6, .null, .int 0, .int 0, .int 0], ar cI q_6 4 (fun _ => 0)] H := hP
  have hD : va_D A [ob aD 2 [.ref q_6, .null, .int 0, .int 0, .int 0], ar cI q_6 4 (fun _ => 0)] := hD
  refine lv_aload_n hx hb dX2_init_11 rfl (lv_at hl 0 rfl) ?_
  refine lv_iconst (v := 4) hx hb dX2_init_12 (by decide) ?_
  refine m_newaI (N := 4) hx hb (hts (.arrayClass .int) (by decide +kernel)) hK hP hD hS hA rfl (by decide) ⟨by decide, by decide⟩ dX2_init_13 (fun q_13 H hP hD hS => ?_)
  have hP : va_P D vwCl [ob aD 2 [.ref q_6, .null, .int 0, .int 0, .int 0], ar cI q_6 4 (fun _ => 0), ar cI q_13 4 (fun _ => 0)] H := hP
  have hD : va_D A [ob aD 2 [.ref q_6, .null, .int 0, .int 0, .int 0], ar cI q_6 4 (fun _ => 0), ar cI q_13 4 (fun _ => 0)] := hD
  refine W.widen (k := 2) (n := 8) (by decide) (by decide) ?_
  refine va_putF (D := D) (ci := 2) (v := .ref q_13) (ty := .array .int) (C := RX2) (T := TX2) (N := 5) hx hb hts inX2 tyX2 tyX2_ok nmX2 hown hK hP hD hS 0 rfl rfl 1 (by decide) fl15 (fun _ h9 => h9) rfl hmn rfl (by decide +kernel) (rfl) (rfl) (Nat.le_of_ble_eq_true rfl) dX2_init_15 (fun H locs hP hD hS => ?_)
  have hP : va_P D vwCl [ob aD 2 [.ref q_6, .ref q_13, .int 0, .int 0, .int 0], ar cI q_6 4 (fun _ => 0), ar cI q_13 4 (fun _ => 0)] H := hP
  have hD : va_D A [ob aD 2 [.ref q_6, .ref q_13, .int 0, .int 0, .int 0], ar cI q_6 4 (fun _ => 0), ar cI q_13 4 (fun _ => 0)] := hD
  refine lv_aload_n hx hb dX2_init_18 rfl (lv_at hl 0 rfl) ?_
  refine m_cVv (As := []) (rest := []) (wr := []) ⟨hx, hb, hml, hown, hts⟩ (c_X2_empty l D cI cZ aD q_6 q_13 (fun _ => 0) (fun _ => 0) 0 0 0 ) (cwV 0 hts gX2_init_X2_empty rfl rfl rfl (by decide +kernel) ⟨Nat.le_of_ble_eq_true rfl, Nat.le_of_ble_eq_true rfl⟩) hN hK hP hD hS hA [0, 1, 2] [] rfl rfl (by decide) (by decide) (by decide) 0 (ci := 2) rfl rfl rfl rfl hl.1 rfl (Nat.le_of_ble_eq_true rfl) dX2_init_19 ⟨Nat.le_of_ble_eq_true rfl, Nat.le_of_ble_eq_true rfl⟩ (fun u_19 H locs hq_19 hP hD hS => ?_)
  obtain ⟨gCU_19, gMV_19⟩ := u_19
  replace hq_19 : gCU_19 = fil (fun _ => -1) (fun _ => 0) 4 ∧ gMV_19 = fil (fun _ => -1) (fun _ => 0) 4 := hq_19
  have hP : va_P D vwCl [ob aD 2 [.ref q_6, .ref q_13, .int (-1), .int (-1), .int 0], ar cI q_6 4 gCU_19, ar cI q_13 4 gMV_19] H := hP
  have hD : va_D A [ob aD 2 [.ref q_6, .ref q_13, .int (-1), .int (-1), .int 0], ar cI q_6 4 gCU_19, ar cI q_13 4 gMV_19] := hD
  exact ret (q_6, q_13, gCU_19, gMV_19) _ _ _ _ dX2_init_22 (⟨fun r hr => by rw [hq_19.1]; simp [fil, hr], fun r hr => by rw [hq_19.2]; simp [fil, hr]⟩) (hP) (hD) hS
abbrev r_c_X6_init : Room := { frames := 2, cells := 12, slots := 421, locals := 32 }
set_option maxHeartbeats 4000000 in
set_option maxRecDepth 100000 in
theorem c_X6_init (l : Launch) (D : va_G) (cI cZ : ClassId) (aT : Nat)  : MV l yX6_init wsX6_init r_c_X6_init D cI cZ [.ref aT] [ob aT 6 [.null, .null, .int 0, .int 0]] (fun (u : Nat × Nat × Nat × Nat × Nat × Nat × Nat × Nat × Nat × Nat × Nat × Nat) => True) (fun (u : Nat × Nat × Nat × Nat × Nat × Nat × Nat × Nat × Nat × Nat × Nat × Nat) => [ob aT 6 [.ref u.1, .ref u.2.1, .int 0, .int 0], ar cI u.1 10 (fun _ => 0), ob u.2.1 3 [.ref u.2.2.1, .ref u.2.2.2.1, .ref u.2.2.2.2.1, .ref u.2.2.2.2.2.1, .ref u.2.2.2.2.2.2.1, .ref u.2.2.2.2.2.2.2.1, .ref u.2.2.2.2.2.2.2.2.1, .ref u.2.2.2.2.2.2.2.2.2.1, .ref u.2.2.2.2.2.2.2.2.2.2.1, .ref u.2.2.2.2.2.2.2.2.2.2.2, .int 0], ar cI u.2.2.1 40 (fun _ => 0), ar cI u.2.2.2.1 40 (fun _ => 0), ar cI u.2.2.2.2.1 40 (fun _ => 0), ar cI u.2.2.2.2.2.1 40 (fun _ => 0), ar cI u.2.2.2.2.2.2.1 40 (fun _ => 0), ar cZ u.2.2.2.2.2.2.2.1 40 (fun _ => 0), ar cI u.2.2.2.2.2.2.2.2.1 40 (fun _ => 0), ar cI u.2.2.2.2.2.2.2.2.2.1 40 (fun _ => 0), ar cI u.2.2.2.2.2.2.2.2.2.2.1 40 (fun _ => 0), ar cI u.2.2.2.2.2.2.2.2.2.2.2 40 (fun _ => 0)]) 12 421 := by
  refine MV.of (cc := cX6_init) (maxL := 1) (by decide) rfl (Nat.le_of_ble_eq_true rfl) ?_
  intro p e s m below meth c A Q hx hb hml hown hts hN hK hA ret hP hD hS ls hl hmn
  have hown : s.vm.findClass RX6 = some m.cls := hown
  have inX3 : ∀ w ∈ wsX30, w ∈ wsX6_init := by decide +kernel
  have inX6 : ∀ w ∈ wsX60, w ∈ wsX6_init := by decide +kernel
  have fl9 := hts (.fieldLink RX6 9 "AdvanceBook$Town" "purses" "[I") (by decide +kernel)
  have fl18 := hts (.fieldLink RX6 18 "AdvanceBook$Town" "papers" "LAdvanceBook$Papers;") (by decide +kernel)
  have fl22 := hts (.fieldLink RX6 22 "AdvanceBook$Town" "men" "I") (by decide +kernel)
  have fl26 := hts (.fieldLink RX6 26 "AdvanceBook$Town" "today" "I") (by decide +kernel)
  have hP : va_P D vwCl [ob aT 6 [.null, .null, .int 0, .int 0]] s.heap := hP
  have hD : va_D A [ob aT 6 [.null, .null, .int 0, .int 0]] := hD
  have hl : lv_has ls 1 [(0, .ref aT)] := hl
  refine lv_aload_n hx hb dX6_init_0 rfl (lv_at hl 0 rfl) ?_
  refine W.objInit hx hb hown (hts (.methodLink RX6 3 objectInit) (by decide +kernel)) (hts (.instanceMethod objectInit) (by decide +kernel)) (hts (.code objectInit ⟨#[0xb1]⟩ 1 none) (by decide +kernel)) rfl (by rw [hml]; exact hl.1) rfl dX6_init_1 (Nat.le_of_ble_eq_true rfl) (Nat.le_of_ble_eq_true rfl) ?_
  refine W.eq (g2 := F0 m 4 ls []) rfl ?_
  refine lv_aload_n hx hb dX6_init_4 rfl (lv_at hl 0 rfl) ?_
  refine lv_bipush (v := 10) hx hb dX6_init_5 (by decide) ?_
  refine m_newaI (N := 10) hx hb (hts (.arrayClass .int) (by decide +kernel)) hK hP hD hS hA rfl (by decide) ⟨by decide, by decide⟩ dX6_init_7 (fun q_7 H hP hD hS => ?_)
  have hP : va_P D vwCl [ob aT 6 [.null, .null, .int 0, .int 0], ar cI q_7 10 (fun _ => 0)] H := hP
  have hD : va_D A [ob aT 6 [.null, .null, .int 0, .int 0], ar cI q_7 10 (fun _ => 0)] := hD
  refine W.widen (k := 1) (n := 10) (by decide) (by decide) ?_
  refine va_putF (D := D) (ci := 6) (v := .ref q_7) (ty := .array .int) (C := RX6) (T := TX6) (N := 4) hx hb hts inX6 tyX6 tyX6_ok nmX6 hown hK hP hD hS 0 rfl rfl 0 (by decide) fl9 (fun _ h9 => h9) rfl hmn rfl (by decide +kernel) (rfl) (rfl) (Nat.le_of_ble_eq_true rfl) dX6_init_9 (fun H locs hP hD hS => ?_)
  have hP : va_P D vwCl [ob aT 6 [.ref q_7, .null, .int 0, .int 0], ar cI q_7 10 (fun _ => 0)] H := hP
  have hD : va_D A [ob aT 6 [.ref q_7, .null, .int 0, .int 0], ar cI q_7 10 (fun _ => 0)] := hD
  refine lv_aload_n hx hb dX6_init_12 rfl (lv_at hl 0 rfl) ?_
  refine va_new (ci := 3) (fs := [.null, .null, .null, .null, .null, .null, .null, .null, .null, .null, .int 0]) (C := RX3) (T := TX3) (N := 11) hx hb hts inX3 tyX3 tyX3_ok hown (hts (.classLink RX6 15 RX3) (by decide +kernel)) (hts (.instantiable RX3 11) (by decide +kernel)) (hts (.initialized RX3) (by decide +kernel)) hK hP hD hS hA rfl (fun j hj => by rcases (show j = 0 ∨ j = 1 ∨ j = 2 ∨ j = 3 ∨ j = 4 ∨ j = 5 ∨ j = 6 ∨ j = 7 ∨ j = 8 ∨ j = 9 ∨ j = 10 by omega) with rfl | rfl | rfl | rfl | rfl | rfl | rfl | rfl | rfl | rfl | rfl <;> rfl) (by decide) (by decide) dX6_init_13 (fun q_13 H hP hD hS => ?_)
  have hP : va_P D vwCl [ob aT 6 [.ref q_7, .null, .int 0, .int 0], ar cI q_7 10 (fun _ => 0), ob q_13 3 [.null, .null, .null, .null, .null, .null, .null, .null, .null, .null, .int 0]] H := hP
  have hD : va_D A [ob aT 6 [.ref q_7, .null, .int 0, .int 0], ar cI q_7 10 (fun _ => 0), ob q_13 3 [.null, .null, .null, .null, .null, .null, .null, .null, .null, .null, .int 0]] := hD
  refine W.widen (k := 2) (n := 21) (by decide) (by decide) ?_
  refine lv_dup hx hb dX6_init_16 rfl ?_
  refine m_cIN (As := []) (rest := [.ref q_13, .ref aT]) (wr := [ob aT 6 [.ref q_7, .null, .int 0, .int 0], ar cI q_7 10 (fun _ => 0)]) ⟨hx, hb, hml, hown, hts⟩ (c_X3_init l D cI cZ q_13 ) ⟨va_cnB 0 hts gX6_init_X3_init_n17 rfl rfl rfl (nest_useM (o := "AdvanceBook") hN (by decide +kernel)) (hts (.initialized RX3) (by decide +kernel)) (by decide +kernel) ⟨Nat.le_of_ble_eq_true rfl, Nat.le_of_ble_eq_true rfl⟩, rfl, hts (.instanceMethod yX3_init) (by decide +kernel)⟩ hN hK hP hD hS hA [2] [0, 1] rfl rfl (by decide) (by decide) (by decide) rfl hl.1 rfl (Nat.le_of_ble_eq_true rfl) dX6_init_17 ⟨Nat.le_of_ble_eq_true rfl, Nat.le_of_ble_eq_true rfl⟩ (fun u_17 H locs hq_17 hP hD hS => ?_)
  obtain ⟨aTD_17, aTC_17, aTK_17, aTR_17, aDY_17, aCP_17, aDB_17, aCR_17, aRK_17, aLF_17⟩ := u_17
  replace hq_17 : True := hq_17
  have hP : va_P D vwCl [ob aT 6 [.ref q_7, .null, .int 0, .int 0], ar cI q_7 10 (fun _ => 0), ob q_13 3 [.ref aTD_17, .ref aTC_17, .ref aTK_17, .ref aTR_17, .ref aDY_17, .ref aCP_17, .ref aDB_17, .ref aCR_17, .ref aRK_17, .ref aLF_17, .int 0], ar cI aTD_17 40 (fun _ => 0), ar cI aTC_17 40 (fun _ => 0), ar cI aTK_17 40 (fun _ => 0), ar cI aTR_17 40 (fun _ => 0), ar cI aDY_17 40 (fun _ => 0), ar cZ aCP_17 40 (fun _ => 0), ar cI aDB_17 40 (fun _ => 0), ar cI aCR_17 40 (fun _ => 0), ar cI aRK_17 40 (fun _ => 0), ar cI aLF_17 40 (fun _ => 0)] H := hP
  have hD : va_D A [ob aT 6 [.ref q_7, .null, .int 0, .int 0], ar cI q_7 10 (fun _ => 0), ob q_13 3 [.ref aTD_17, .ref aTC_17, .ref aTK_17, .ref aTR_17, .ref aDY_17, .ref aCP_17, .ref aDB_17, .ref aCR_17, .ref aRK_17, .ref aLF_17, .int 0], ar cI aTD_17 40 (fun _ => 0), ar cI aTC_17 40 (fun _ => 0), ar cI aTK_17 40 (fun _ => 0), ar cI aTR_17 40 (fun _ => 0), ar cI aDY_17 40 (fun _ => 0), ar cZ aCP_17 40 (fun _ => 0), ar cI aDB_17 40 (fun _ => 0), ar cI aCR_17 40 (fun _ => 0), ar cI aRK_17 40 (fun _ => 0), ar cI aLF_17 40 (fun _ => 0)] := hD
  refine W.widen (k := 12) (n := 421) (by decide) (by decide) ?_
  refine va_putF (D := D) (ci := 6) (v := .ref q_13) (ty := .object "AdvanceBook$Papers") (C := RX6) (T := TX6) (N := 4) hx hb hts inX6 tyX6 tyX6_ok nmX6 hown hK hP hD hS 0 rfl rfl 1 (by decide) fl18 (fun _ h9 => h9) rfl hmn rfl (by decide +kernel) (rfl) (rfl) (Nat.le_of_ble_eq_true rfl) dX6_init_20 (fun H locs hP hD hS => ?_)
  have hP : va_P D vwCl [ob aT 6 [.ref q_7, .ref q_13, .int 0, .int 0], ar cI q_7 10 (fun _ => 0), ob q_13 3 [.ref aTD_17, .ref aTC_17, .ref aTK_17, .ref aTR_17, .ref aDY_17, .ref aCP_17, .ref aDB_17, .ref aCR_17, .ref aRK_17, .ref aLF_17, .int 0], ar cI aTD_17 40 (fun _ => 0), ar cI aTC_17 40 (fun _ => 0), ar cI aTK_17 40 (fun _ => 0), ar cI aTR_17 40 (fun _ => 0), ar cI aDY_17 40 (fun _ => 0), ar cZ aCP_17 40 (fun _ => 0), ar cI aDB_17 40 (fun _ => 0), ar cI aCR_17 40 (fun _ => 0), ar cI aRK_17 40 (fun _ => 0), ar cI aLF_17 40 (fun _ => 0)] H := hP
  have hD : va_D A [ob aT 6 [.ref q_7, .ref q_13, .int 0, .int 0], ar cI q_7 10 (fun _ => 0), ob q_13 3 [.ref aTD_17, .ref aTC_17, .ref aTK_17, .ref aTR_17, .ref aDY_17, .ref aCP_17, .ref aDB_17, .ref aCR_17, .ref aRK_17, .ref aLF_17, .int 0], ar cI aTD_17 40 (fun _ => 0), ar cI aTC_17 40 (fun _ => 0), ar cI aTK_17 40 (fun _ => 0), ar cI aTR_17 40 (fun _ => 0), ar cI aDY_17 40 (fun _ => 0), ar cZ aCP_17 40 (fun _ => 0), ar cI aDB_17 40 (fun _ => 0), ar cI aCR_17 40 (fun _ => 0), ar cI aRK_17 40 (fun _ => 0), ar cI aLF_17 40 (fun _ => 0)] := hD
  refine lv_aload_n hx hb dX6_init_23 rfl (lv_at hl 0 rfl) ?_
  refine lv_iconst (v := 0) hx hb dX6_init_24 (by decide) ?_
  refine va_put (D := D) (ci := 6) (v := .int 0) (ty := .int) (C := RX6) (T := TX6) (N := 4) hx hb hts inX6 tyX6 tyX6_ok nmX6 hown hK hP hD hS 0 rfl rfl 2 (by decide) fl22 (fun _ h9 => h9) rfl (by decide +kernel) (rfl) (rfl) (Nat.le_of_ble_eq_true rfl) dX6_init_25 (fun H locs hP hD hS => ?_)
  have hP : va_P D vwCl [ob aT 6 [.ref q_7, .ref q_13, .int 0, .int 0], ar cI q_7 10 (fun _ => 0), ob q_13 3 [.ref aTD_17, .ref aTC_17, .ref aTK_17, .ref aTR_17, .ref aDY_17, .ref aCP_17, .ref aDB_17, .ref aCR_17, .ref aRK_17, .ref aLF_17, .int 0], ar cI aTD_17 40 (fun _ => 0), ar cI aTC_17 40 (fun _ => 0), ar cI aTK_17 40 (fun _ => 0), ar cI aTR_17 40 (fun _ => 0), ar cI aDY_17 40 (fun _ => 0), ar cZ aCP_17 40 (fun _ => 0), ar cI aDB_17 40 (fun _ => 0), ar cI aCR_17 40 (fun _ => 0), ar cI aRK_17 40 (fun _ => 0), ar cI aLF_17 40 (fun _ => 0)] H := hP
  have hD : va_D A [ob aT 6 [.ref q_7, .ref q_13, .int 0, .int 0], ar cI q_7 10 (fun _ => 0), ob q_13 3 [.ref aTD_17, .ref aTC_17, .ref aTK_17, .ref aTR_17, .ref aDY_17, .ref aCP_17, .ref aDB_17, .ref aCR_17, .ref aRK_17, .ref aLF_17, .int 0], ar cI aTD_17 40 (fun _ => 0), ar cI aTC_17 40 (fun _ => 0), ar cI aTK_17 40 (fun _ => 0), ar cI aTR_17 40 (fun _ => 0), ar cI aDY_17 40 (fun _ => 0), ar cZ aCP_17 40 (fun _ => 0), ar cI aDB_17 40 (fun _ => 0), ar cI aCR_17 40 (fun _ => 0), ar cI aRK_17 40 (fun _ => 0), ar cI aLF_17 40 (fun _ => 0)] := hD
  refine lv_aload_n hx hb dX6_init_28 rfl (lv_at hl 0 rfl) ?_
  refine lv_iconst (v := 0) hx hb dX6_init_29 (by decide) ?_
  refine va_put (D := D) (ci := 6) (v := .int 0) (ty := .int) (C := RX6) (T := TX6) (N := 4) hx hb hts inX6 tyX6 tyX6_ok nmX6 hown hK hP hD hS 0 rfl rfl 3 (by decide) fl26 (fun _ h9 => h9) rfl (by decide +kernel) (rfl) (rfl) (Nat.le_of_ble_eq_true rfl) dX6_init_30 (fun H locs hP hD hS => ?_)
  have hP : va_P D vwCl [ob aT 6 [.ref q_7, .ref q_13, .int 0, .int 0], ar cI q_7 10 (fun _ => 0), ob q_13 3 [.ref aTD_17, .ref aTC_17, .ref aTK_17, .ref aTR_17, .ref aDY_17, .ref aCP_17, .ref aDB_17, .ref aCR_17, .ref aRK_17, .ref aLF_17, .int 0], ar cI aTD_17 40 (fun _ => 0), ar cI aTC_17 40 (fun _ => 0), ar cI aTK_17 40 (fun _ => 0), ar cI aTR_17 40 (fun _ => 0), ar cI aDY_17 40 (fun _ => 0), ar cZ aCP_17 40 (fun _ => 0), ar cI aDB_17 40 (fun _ => 0), ar cI aCR_17 40 (fun _ => 0), ar cI aRK_17 40 (fun _ => 0), ar cI aLF_17 40 (fun _ => 0)] H := hP
  have hD : va_D A [ob aT 6 [.ref q_7, .ref q_13, .int 0, .int 0], ar cI q_7 10 (fun _ => 0), ob q_13 3 [.ref aTD_17, .ref aTC_17, .ref aTK_17, .ref aTR_17, .ref aDY_17, .ref aCP_17, .ref aDB_17, .ref aCR_17, .ref aRK_17, .ref aLF_17, .int 0], ar cI aTD_17 40 (fun _ => 0), ar cI aTC_17 40 (fun _ => 0), ar cI aTK_17 40 (fun _ => 0), ar cI aTR_17 40 (fun _ => 0), ar cI aDY_17 40 (fun _ => 0), ar cZ aCP_17 40 (fun _ => 0), ar cI aDB_17 40 (fun _ => 0), ar cI aCR_17 40 (fun _ => 0), ar cI aRK_17 40 (fun _ => 0), ar cI aLF_17 40 (fun _ => 0)] := hD
  exact ret (q_7, q_13, aTD_17, aTC_17, aTK_17, aTR_17, aDY_17, aCP_17, aDB_17, aCR_17, aRK_17, aLF_17) _ _ _ _ dX6_init_33 (trivial) (hP) (hD) hS
