abbrev r_c_X1_menFailed : Room := { frames := 0, cells := 0, slots := 0, locals := 0 }
set_option maxHeartbeats 4000000 in
set_option maxRecDepth 100000 in
theorem c_X1_menFailed (l : Launch) (D : va_G) (cI cZ : ClassId) (aC : Nat) (aPD : Nat) (aOR : Nat) (aHS : Nat) (aUN : Nat) (aFA : Nat) (aLO : Nat) (aLA : Nat) (fFA : Nat → Int32) (cm : Nat) (cpn : Nat) (cr : Int32) (hcm : cm ≤ 10) : MI l yX1_menFailed wsX1_menFailed r_c_X1_menFailed D cI cZ [.ref aC] [ob aC 1 [.ref aPD, .ref aOR, .ref aHS, .ref aUN, .ref aFA, .ref aLO, .ref aLA, .int (nI cm), .int (nI cpn), .int cr], ar cI aFA 10 fFA] (fun (r : Int32) (u : Unit) => r = cntF fFA cm) (fun (u : Unit) => [ob aC 1 [.ref aPD, .ref aOR, .ref aHS, .ref aUN, .ref aFA, .ref aLO, .ref aLA, .int (nI cm), .int (nI cpn), .int cr], ar cI aFA 10 fFA]) 0 0 := by
  refine MI.of (cc := cX1_menFailed) (maxL := 3) (by decide) rfl (Nat.le_of_ble_eq_true rfl) ?_
  intro p e s m below meth c A Q hx hb hml hown hts hN hK hA ret hP hD hS ls hl
  have hown : s.vm.findClass RX1 = some m.cls := hown
  have inX1 : ∀ w ∈ wsX10, w ∈ wsX1_menFailed := by decide +kernel
  have fl24 := hts (.fieldLink RX1 24 "AdvanceBook$Clearing" "failed" "[I") (by decide +kernel)
  have fl33 := hts (.fieldLink RX1 33 "AdvanceBook$Clearing" "men" "I") (by decide +kernel)
  have hP : va_P D vwCl [ob aC 1 [.ref aPD, .ref aOR, .ref aHS, .ref aUN, .ref aFA, .ref aLO, .ref aLA, .int (nI cm), .int (nI cpn), .int cr], ar cI aFA 10 fFA] s.heap := hP
  have hD : va_D A [ob aC 1 [.ref aPD, .ref aOR, .ref aHS, .ref aUN, .ref aFA, .ref aLO, .ref aLA, .int (nI cm), .int (nI cpn), .int cr], ar cI aFA 10 fFA] := hD
  have hl : lv_has ls 3 [(0, .ref aC)] := hl
  refine lv_iconst (v := 0) hx hb dX1_menFailed_0 (by decide) ?_
  refine lv_istore_n (lv' := [(1, .int 0), (0, .ref aC)]) hx hb dX1_menFailed_1 rfl hl (by decide) rfl (fun ls hl => ?_)
  refine lv_iconst (v := 0) hx hb dX1_menFailed_2 (by decide) ?_
  refine lv_istore_n (lv' := [(2, .int 0), (1, .int 0), (0, .ref aC)]) hx hb dX1_menFailed_3 rfl hl (by decide) rfl (fun ls hl => ?_)
  have L_4 : ∀ (n_4 : Nat) (k : Nat) (sm : Int32), (cm - k < n_4) → (k ≤ cm) → (sm = cntF fFA k) → ∀ (H : Heap) (locs : List Loc), va_P D vwCl [ob aC 1 [.ref aPD, .ref aOR, .ref aHS, .ref aUN, .ref aFA, .ref aLO, .ref aLA, .int (nI cm), .int (nI cpn), .int cr], ar cI aFA 10 fFA] H → va_D A [ob aC 1 [.ref aPD, .ref aOR, .ref aHS, .ref aUN, .ref aFA, .ref aLO, .ref aLA, .int (nI cm), .int (nI cpn), .int cr], ar cI aFA 10 fFA] → va_S A s.heap H locs → ∀ ls : Array Slot, lv_has ls 3 [(0, .ref aC), (1, .int sm), (2, .int (nI k))] → W p l e r_c_X1_menFailed s m (([.ref aC] : List Value).toArray) below meth c H locs 0 0 Q (F0 m 4 ls []) := by
    intro n_4
    induction n_4 with
    | zero => intro k sm hfu; exact absurd hfu (Nat.not_lt_zero _)
    | succ n_4 ih_4 =>
      intro k sm hfu_4 hk hs H locs hP hD hS ls hl
      refine lv_iload_n hx hb dX1_menFailed_4 rfl (lv_at hl 2 rfl) ?_
      refine lv_aload_n hx hb dX1_menFailed_5 rfl (lv_at hl 0 rfl) ?_
      refine va_get (D := D) (ci := 1) (v := .int (nI cm)) (C := RX1) (T := TX1) (N := 10) hx hb hts inX1 hown hK hP 0 rfl rfl 7 (by decide) fl33 (fun _ h9 => h9) rfl dX1_menFailed_6 ?_
      refine lv_icmp_ge (tgt := 35) hx hb dX1_menFailed_9 (by decide) (fun c_9 => ?_) (fun c_9 => ?_)
      · skip
        have k_9 : cm ≤ k := (nI_leI (a := cm) (b := k) (by omega) (by omega)).mp c_9
        refine lv_iload_n hx hb dX1_menFailed_35 rfl (lv_at hl 1 rfl) ?_
        exact ret sm () _ _ _ _ dX1_menFailed_36 (by have e : k = cm := (by omega); subst e; exact hs) (hP) (hD) hS
      · skip
        have k_9 : ¬ cm ≤ k := fun h9 => c_9 ((nI_leI (a := cm) (b := k) (by omega) (by omega)).mpr h9)
        refine lv_iload_n hx hb dX1_menFailed_12 rfl (lv_at hl 1 rfl) ?_
        refine lv_aload_n hx hb dX1_menFailed_13 rfl (lv_at hl 0 rfl) ?_
        refine va_get (D := D) (ci := 1) (v := .ref aFA) (C := RX1) (T := TX1) (N := 10) hx hb hts inX1 hown hK hP 0 rfl rfl 4 (by decide) fl24 (fun _ h9 => h9) rfl dX1_menFailed_14 ?_
        refine lv_iload_n hx hb dX1_menFailed_17 rfl (lv_at hl 2 rfl) ?_
        refine m_iald (k := k) hx hb hK hP 1 0 rfl rfl (by omega) (by decide) dX1_menFailed_18 ?_
        refine lv_if_ne (tgt := 26) hx hb dX1_menFailed_19 (by decide) (fun c_19 => ?_) (fun c_19 => ?_)
        · skip
          refine lv_iconst (v := 1) hx hb dX1_menFailed_26 (by decide) ?_
          refine lv_iadd hx hb dX1_menFailed_27 ?_
          refine lv_istore_n (lv' := [(1, .int (sm + 1)), (0, .ref aC), (2, .int (nI k))]) hx hb dX1_menFailed_28 rfl hl (by decide) rfl (fun ls hl => ?_)
          refine lv_iinc (v := (nI (k + 1))) (lv' := [(2, .int (nI (k + 1))), (1, .int (sm + 1)), (0, .ref aC)]) hx hb dX1_menFailed_29 hl (k := 2) rfl (nI_inc k 1 (by decide)) (by decide) rfl (fun ls hl => ?_)
          refine lv_goto (tgt := 4) hx hb dX1_menFailed_32 (by decide) ?_
          exact ih_4 (k + 1) (sm + 1) (by omega) (by omega) (by rw [hs, cntF]; simp [c_19]) _ _ (hP) (hD) hS ls (lv_sub hl [2, 1, 0] rfl)
        · skip
          refine lv_iconst (v := 0) hx hb dX1_menFailed_22 (by decide) ?_
          refine lv_goto (tgt := 27) hx hb dX1_menFailed_23 (by decide) ?_
          refine lv_iadd hx hb dX1_menFailed_27 ?_
          refine lv_istore_n (lv' := [(1, .int (sm + 0)), (0, .ref aC), (2, .int (nI k))]) hx hb dX1_menFailed_28 rfl hl (by decide) rfl (fun ls hl => ?_)
          refine lv_iinc (v := (nI (k + 1))) (lv' := [(2, .int (nI (k + 1))), (1, .int (sm + 0)), (0, .ref aC)]) hx hb dX1_menFailed_29 hl (k := 2) rfl (nI_inc k 1 (by decide)) (by decide) rfl (fun ls hl => ?_)
          refine lv_goto (tgt := 4) hx hb dX1_menFailed_32 (by decide) ?_
          exact ih_4 (k + 1) (sm + 0) (by omega) (by omega) (by rw [hs, cntF]; simp [c_19]) _ _ (hP) (hD) hS ls (lv_sub hl [2, 1, 0] rfl)
  exact L_4 ((cm - 0) + 1) 0 0 (Nat.lt_succ_self _) (by omega) (rfl) _ _ (hP) (hD) hS ls (lv_sub hl [2, 1, 0] rfl)
abbrev r_c_X1_coinsPaid : Room := { frames := 0, cells := 0, slots := 0, locals := 0 }
set_option maxHeartbeats 4000000 in
set_option maxRecDepth 100000 in
theorem c_X1_coinsPaid (l : Launch) (D : va_G) (cI cZ : ClassId) (aC : Nat) (aPD : Nat) (aOR : Nat) (aHS : Nat) (aUN : Nat) (aFA : Nat) (aLO : Nat) (aLA : Nat) (fPD : Nat → Int32) (cm : Nat) (cpn : Nat) (cr : Int32) (hcp : cpn ≤ 40) : MI l yX1_coinsPaid wsX1_coinsPaid r_c_X1_coinsPaid D cI cZ [.ref aC] [ob aC 1 [.ref aPD, .ref aOR, .ref aHS, .ref aUN, .ref aFA, .ref aLO, .ref aLA, .int (nI cm), .int (nI cpn), .int cr], ar cI aPD 40 fPD] (fun (r : Int32) (u : Unit) => r = sumS fPD cpn) (fun (u : Unit) => [ob aC 1 [.ref aPD, .ref aOR, .ref aHS, .ref aUN, .ref aFA, .ref aLO, .ref aLA, .int (nI cm), .int (nI cpn), .int cr], ar cI aPD 40 fPD]) 0 0 := by
  refine MI.of (cc := cX1_coinsPaid) (maxL := 3) (by decide) rfl (Nat.le_of_ble_eq_true rfl) ?_
  intro p e s m below meth c A Q hx hb hml hown hts hN hK hA ret hP hD hS ls hl
  have hown : s.vm.findClass RX1 = some m.cls := hown
  have inX1 : ∀ w ∈ wsX10, w ∈ wsX1_coinsPaid := by decide +kernel
  have fl9 := hts (.fieldLink RX1 9 "AdvanceBook$Clearing" "paid" "[I") (by decide +kernel)
  have fl37 := hts (.fieldLink RX1 37 "AdvanceBook$Clearing" "papers" "I") (by decide +kernel)
  have hP : va_P D vwCl [ob aC 1 [.ref aPD, .ref aOR, .ref aHS, .ref aUN, .ref aFA, .ref aLO, .ref aLA, .int (nI cm), .int (nI cpn), .int cr], ar cI aPD 40 fPD] s.heap := hP
  have hD : va_D A [ob aC 1 [.ref aPD, .ref aOR, .ref aHS, .ref aUN, .ref aFA, .ref aLO, .ref aLA, .int (nI cm), .int (nI cpn), .int cr], ar cI aPD 40 fPD] := hD
  have hl : lv_has ls 3 [(0, .ref aC)] := hl
  refine lv_iconst (v := 0) hx hb dX1_coinsPaid_0 (by decide) ?_
  refine lv_istore_n (lv' := [(1, .int 0), (0, .ref aC)]) hx hb dX1_coinsPaid_1 rfl hl (by decide) rfl (fun ls hl => ?_)
  refine lv_iconst (v := 0) hx hb dX1_coinsPaid_2 (by decide) ?_
  refine lv_istore_n (lv' := [(2, .int 0), (1, .int 0), (0, .ref aC)]) hx hb dX1_coinsPaid_3 rfl hl (by decide) rfl (fun ls hl => ?_)
  have L_4 : ∀ (n_4 : Nat) (k : Nat) (sm : Int32), (cpn - k < n_4) → (k ≤ cpn) → (sm = sumS fPD k) → ∀ (H : Heap) (locs : List Loc), va_P D vwCl [ob aC 1 [.ref aPD, .ref aOR, .ref aHS, .ref aUN, .ref aFA, .ref aLO, .ref aLA, .int (nI cm), .int (nI cpn), .int cr], ar cI aPD 40 fPD] H → va_D A [ob aC 1 [.ref aPD, .ref aOR, .ref aHS, .ref aUN, .ref aFA, .ref aLO, .ref aLA, .int (nI cm), .int (nI cpn), .int cr], ar cI aPD 40 fPD] → va_S A s.heap H locs → ∀ ls : Array Slot, lv_has ls 3 [(0, .ref aC), (1, .int sm), (2, .int (nI k))] → W p l e r_c_X1_coinsPaid s m (([.ref aC] : List Value).toArray) below meth c H locs 0 0 Q (F0 m 4 ls []) := by
    intro n_4
    induction n_4 with
    | zero => intro k sm hfu; exact absurd hfu (Nat.not_lt_zero _)
    | succ n_4 ih_4 =>
      intro k sm hfu_4 hk hs H locs hP hD hS ls hl
      refine lv_iload_n hx hb dX1_coinsPaid_4 rfl (lv_at hl 2 rfl) ?_
      refine lv_aload_n hx hb dX1_coinsPaid_5 rfl (lv_at hl 0 rfl) ?_
      refine va_get (D := D) (ci := 1) (v := .int (nI cpn)) (C := RX1) (T := TX1) (N := 10) hx hb hts inX1 hown hK hP 0 rfl rfl 8 (by decide) fl37 (fun _ h9 => h9) rfl dX1_coinsPaid_6 ?_
      refine lv_icmp_ge (tgt := 27) hx hb dX1_coinsPaid_9 (by decide) (fun c_9 => ?_) (fun c_9 => ?_)
      · skip
        have k_9 : cpn ≤ k := (nI_leI (a := cpn) (b := k) (by omega) (by omega)).mp c_9
        refine lv_iload_n hx hb dX1_coinsPaid_27 rfl (lv_at hl 1 rfl) ?_
        exact ret sm () _ _ _ _ dX1_coinsPaid_28 (by have e : k = cpn := (by omega); subst e; exact hs) (hP) (hD) hS
      · skip
        have k_9 : ¬ cpn ≤ k := fun h9 => c_9 ((nI_leI (a := cpn) (b := k) (by omega) (by omega)).mpr h9)
        refine lv_iload_n hx hb dX1_coinsPaid_12 rfl (lv_at hl 1 rfl) ?_
        refine lv_aload_n hx hb dX1_coinsPaid_13 rfl (lv_at hl 0 rfl) ?_
        refine va_get (D := D) (ci := 1) (v := .ref aPD) (C := RX1) (T := TX1) (N := 10) hx hb hts inX1 hown hK hP 0 rfl rfl 0 (by decide) fl9 (fun _ h9 => h9) rfl dX1_coinsPaid_14 ?_
        refine lv_iload_n hx hb dX1_coinsPaid_17 rfl (lv_at hl 2 rfl) ?_
        refine m_iald (k := k) hx hb hK hP 1 0 rfl rfl (by omega) (by decide) dX1_coinsPaid_18 ?_
        refine lv_iadd hx hb dX1_coinsPaid_19 ?_
        refine lv_istore_n (lv' := [(1, .int (sm + (fPD k))), (0, .ref aC), (2, .int (nI k))]) hx hb dX1_coinsPaid_20 rfl hl (by decide) rfl (fun ls hl => ?_)
        refine lv_iinc (v := (nI (k + 1))) (lv' := [(2, .int (nI (k + 1))), (1, .int (sm + (fPD k))), (0, .ref aC)]) hx hb dX1_coinsPaid_21 hl (k := 2) rfl (nI_inc k 1 (by decide)) (by decide) rfl (fun ls hl => ?_)
        refine lv_goto (tgt := 4) hx hb dX1_coinsPaid_24 (by decide) ?_
        exact ih_4 (k + 1) (sm + (fPD k)) (by omega) (by omega) (by rw [hs]; rfl) _ _ (hP) (hD) hS ls (lv_sub hl [2, 1, 0] rfl)
  exact L_4 ((cpn - 0) + 1) 0 0 (Nat.lt_succ_self _) (by omega) (rfl) _ _ (hP) (hD) hS ls (lv_sub hl [2, 1, 0] rfl)
abbrev r_c_X1_tell : Room := { frames := 0, cells := 0, slots := 0, locals := 0 }
set_option maxHeartbeats 4000000 in
set_option maxRecDepth 100000 in
theorem c_X1_tell (l : Launch) (D : va_G) (cI cZ : ClassId) (aC : Nat) (aPD : Nat) (aOR : Nat) (aHS : Nat) (aUN : Nat) (aFA : Nat) (aLO : Nat) (aLA : Nat) (fPD : Nat → Int32) (fHS : Nat → Int32) (fFA : Nat → Int32) (fUN : Nat → Int32) (cm : Nat) (cpn : Nat) (cr : Int32) (x : Int32) (k : Int32) (hcm : cm ≤ 10) (hcp : cpn ≤ 40) : MI l yX1_tell wsX1_tell r_c_X1_tell D cI cZ [.ref aC, .int x, .int k] [ob aC 1 [.ref aPD, .ref aOR, .ref aHS, .ref aUN, .ref aFA, .ref aLO, .ref aLA, .int (nI cm), .int (nI cpn), .int cr], ar cI aPD 40 fPD, ar cI aHS 10 fHS, ar cI aFA 10 fFA, ar cI aUN 10 fUN] (fun (r : Int32) (u : Unit) => r = tellC fPD fHS fFA fUN cpn cm x k) (fun (u : Unit) => [ob aC 1 [.ref aPD, .ref aOR, .ref aHS, .ref aUN, .ref aFA, .ref aLO, .ref aLA, .int (nI cm), .int (nI cpn), .int cr], ar cI aPD 40 fPD, ar cI aHS 10 fHS, ar cI aFA 10 fFA, ar cI aUN 10 fUN]) 0 0 := by
  refine MI.of (cc := cX1_tell) (maxL := 3) (by decide) rfl (Nat.le_of_ble_eq_true rfl) ?_
  intro p e s m below meth c A Q hx hb hml hown hts hN hK hA ret hP hD hS ls hl
  have hown : s.vm.findClass RX1 = some m.cls := hown
  have inX1 : ∀ w ∈ wsX10, w ∈ wsX1_tell := by decide +kernel
  have fl9 := hts (.fieldLink RX1 9 "AdvanceBook$Clearing" "paid" "[I") (by decide +kernel)
  have fl18 := hts (.fieldLink RX1 18 "AdvanceBook$Clearing" "has" "[I") (by decide +kernel)
  have fl21 := hts (.fieldLink RX1 21 "AdvanceBook$Clearing" "unpaid" "[I") (by decide +kernel)
  have fl24 := hts (.fieldLink RX1 24 "AdvanceBook$Clearing" "failed" "[I") (by decide +kernel)
  have fl33 := hts (.fieldLink RX1 33 "AdvanceBook$Clearing" "men" "I") (by decide +kernel)
  have fl37 := hts (.fieldLink RX1 37 "AdvanceBook$Clearing" "papers" "I") (by decide +kernel)
  have hP : va_P D vwCl [ob aC 1 [.ref aPD, .ref aOR, .ref aHS, .ref aUN, .ref aFA, .ref aLO, .ref aLA, .int (nI cm), .int (nI cpn), .int cr], ar cI aPD 40 fPD, ar cI aHS 10 fHS, ar cI aFA 10 fFA, ar cI aUN 10 fUN] s.heap := hP
  have hD : va_D A [ob aC 1 [.ref aPD, .ref aOR, .ref aHS, .ref aUN, .ref aFA, .ref aLO, .ref aLA, .int (nI cm), .int (nI cpn), .int cr], ar cI aPD 40 fPD, ar cI aHS 10 fHS, ar cI aFA 10 fFA, ar cI aUN 10 fUN] := hD
  have hl : lv_has ls 3 [(0, .ref aC), (1, .int x), (2, .int k)] := hl
  refine lv_iload_n hx hb dX1_tell_0 rfl (lv_at hl 2 rfl) ?_
  refine lv_if_lt (tgt := 23) hx hb dX1_tell_1 (by decide) (fun c_1 => ?_) (fun c_1 => ?_)
  · skip
    refine lv_iconst (v := (-1)) hx hb dX1_tell_23 (by decide) ?_
    exact ret (-1) () _ _ _ _ dX1_tell_24 (by unfold tellC; grind) (hP) (hD) hS
  · skip
    refine lv_iload_n hx hb dX1_tell_4 rfl (lv_at hl 2 rfl) ?_
    refine lv_iload_n hx hb dX1_tell_5 rfl (lv_at hl 1 rfl) ?_
    refine lv_if_ne (tgt := 16) hx hb dX1_tell_6 (by decide) (fun c_6 => ?_) (fun c_6 => ?_)
    · skip
      refine lv_aload_n hx hb dX1_tell_16 rfl (lv_at hl 0 rfl) ?_
      refine va_get (D := D) (ci := 1) (v := .int (nI cm)) (C := RX1) (T := TX1) (N := 10) hx hb hts inX1 hown hK hP 0 rfl rfl 7 (by decide) fl33 (fun _ h9 => h9) rfl dX1_tell_17 ?_
      refine lv_icmp_lt (tgt := 25) hx hb dX1_tell_20 (by decide) (fun c_20 => ?_) (fun c_20 => ?_)
      · skip
        refine lv_iload_n hx hb dX1_tell_25 rfl (lv_at hl 1 rfl) ?_
        by_cases e26_0 : x = 0
        · refine lv_tableIn (tgt := 56) hx hb dX1_tell_26 (by rw [e26_0]; decide) (by rw [e26_0]; decide) (by rw [e26_0]; rfl) (by decide) ?_
          refine lv_aload_n hx hb dX1_tell_56 rfl (lv_at hl 0 rfl) ?_
          refine va_get (D := D) (ci := 1) (v := .ref aPD) (C := RX1) (T := TX1) (N := 10) hx hb hts inX1 hown hK hP 0 rfl rfl 0 (by decide) fl9 (fun _ h9 => h9) rfl dX1_tell_57 ?_
          refine lv_iload_n hx hb dX1_tell_60 rfl (lv_at hl 2 rfl) ?_
          refine va_iald hx hb hK hP 1 0 rfl rfl (by first | exact vp_in_range c_1 c_20 (by omega) (by decide) | exact absurd (c_6.symm.trans e26_1) (by decide) | exact absurd (c_6.symm.trans e26_2) (by decide) | exact absurd (c_6.symm.trans e26_3) (by decide)) dX1_tell_61 ?_
          exact ret (fPD (ix k)) () _ _ _ _ dX1_tell_62 (by unfold tellC; grind) (hP) (hD) hS
        by_cases e26_1 : x = 1
        · refine lv_tableIn (tgt := 63) hx hb dX1_tell_26 (by rw [e26_1]; decide) (by rw [e26_1]; decide) (by rw [e26_1]; rfl) (by decide) ?_
          refine lv_aload_n hx hb dX1_tell_63 rfl (lv_at hl 0 rfl) ?_
          refine va_get (D := D) (ci := 1) (v := .ref aHS) (C := RX1) (T := TX1) (N := 10) hx hb hts inX1 hown hK hP 0 rfl rfl 2 (by decide) fl18 (fun _ h9 => h9) rfl dX1_tell_64 ?_
          refine lv_iload_n hx hb dX1_tell_67 rfl (lv_at hl 2 rfl) ?_
          refine va_iald hx hb hK hP 2 0 rfl rfl (by first | exact vp_in_range c_1 c_20 (by omega) (by decide) | exact absurd (c_6.symm.trans e26_1) (by decide) | exact absurd (c_6.symm.trans e26_2) (by decide) | exact absurd (c_6.symm.trans e26_3) (by decide)) dX1_tell_68 ?_
          exact ret (fHS (ix k)) () _ _ _ _ dX1_tell_69 (by unfold tellC; grind) (hP) (hD) hS
        by_cases e26_2 : x = 2
        · refine lv_tableIn (tgt := 70) hx hb dX1_tell_26 (by rw [e26_2]; decide) (by rw [e26_2]; decide) (by rw [e26_2]; rfl) (by decide) ?_
          refine lv_aload_n hx hb dX1_tell_70 rfl (lv_at hl 0 rfl) ?_
          refine va_get (D := D) (ci := 1) (v := .ref aFA) (C := RX1) (T := TX1) (N := 10) hx hb hts inX1 hown hK hP 0 rfl rfl 4 (by decide) fl24 (fun _ h9 => h9) rfl dX1_tell_71 ?_
          refine lv_iload_n hx hb dX1_tell_74 rfl (lv_at hl 2 rfl) ?_
          refine va_iald hx hb hK hP 3 0 rfl rfl (by first | exact vp_in_range c_1 c_20 (by omega) (by decide) | exact absurd (c_6.symm.trans e26_1) (by decide) | exact absurd (c_6.symm.trans e26_2) (by decide) | exact absurd (c_6.symm.trans e26_3) (by decide)) dX1_tell_75 ?_
          exact ret (fFA (ix k)) () _ _ _ _ dX1_tell_76 (by unfold tellC; grind) (hP) (hD) hS
        by_cases e26_3 : x = 3
        · refine lv_tableIn (tgt := 77) hx hb dX1_tell_26 (by rw [e26_3]; decide) (by rw [e26_3]; decide) (by rw [e26_3]; rfl) (by decide) ?_
          refine lv_aload_n hx hb dX1_tell_77 rfl (lv_at hl 0 rfl) ?_
          refine va_get (D := D) (ci := 1) (v := .ref aUN) (C := RX1) (T := TX1) (N := 10) hx hb hts inX1 hown hK hP 0 rfl rfl 3 (by decide) fl21 (fun _ h9 => h9) rfl dX1_tell_78 ?_
          refine lv_iload_n hx hb dX1_tell_81 rfl (lv_at hl 2 rfl) ?_
          refine va_iald hx hb hK hP 4 0 rfl rfl (by first | exact vp_in_range c_1 c_20 (by omega) (by decide) | exact absurd (c_6.symm.trans e26_1) (by decide) | exact absurd (c_6.symm.trans e26_2) (by decide) | exact absurd (c_6.symm.trans e26_3) (by decide)) dX1_tell_82 ?_
          exact ret (fUN (ix k)) () _ _ _ _ dX1_tell_83 (by unfold tellC; grind) (hP) (hD) hS
        refine lv_tableOut (tgt := 84) hx hb dX1_tell_26 (by have t0 := sw_ne (z := 0) (by decide) e26_0; have t1 := sw_ne (z := 1) (by decide) e26_1; have t2 := sw_ne (z := 2) (by decide) e26_2; have t3 := sw_ne (z := 3) (by decide) e26_3; omega) (by decide) ?_
        refine lv_iconst (v := (-1)) hx hb dX1_tell_84 (by decide) ?_
        exact ret (-1) () _ _ _ _ dX1_tell_85 (by unfold tellC; grind) (hP) (hD) hS
      · skip
        refine lv_iconst (v := (-1)) hx hb dX1_tell_23 (by decide) ?_
        exact ret (-1) () _ _ _ _ dX1_tell_24 (by unfold tellC; grind) (hP) (hD) hS
    · skip
      refine lv_aload_n hx hb dX1_tell_9 rfl (lv_at hl 0 rfl) ?_
      refine va_get (D := D) (ci := 1) (v := .int (nI cpn)) (C := RX1) (T := TX1) (N := 10) hx hb hts inX1 hown hK hP 0 rfl rfl 8 (by decide) fl37 (fun _ h9 => h9) rfl dX1_tell_10 ?_
      refine lv_goto (tgt := 20) hx hb dX1_tell_13 (by decide) ?_
      refine lv_icmp_lt (tgt := 25) hx hb dX1_tell_20 (by decide) (fun c_20 => ?_) (fun c_20 => ?_)
      · skip
        refine lv_iload_n hx hb dX1_tell_25 rfl (lv_at hl 1 rfl) ?_
        by_cases e26_0 : x = 0
        · refine lv_tableIn (tgt := 56) hx hb dX1_tell_26 (by rw [e26_0]; decide) (by rw [e26_0]; decide) (by rw [e26_0]; rfl) (by decide) ?_
          refine lv_aload_n hx hb dX1_tell_56 rfl (lv_at hl 0 rfl) ?_
          refine va_get (D := D) (ci := 1) (v := .ref aPD) (C := RX1) (T := TX1) (N := 10) hx hb hts inX1 hown hK hP 0 rfl rfl 0 (by decide) fl9 (fun _ h9 => h9) rfl dX1_tell_57 ?_
          refine lv_iload_n hx hb dX1_tell_60 rfl (lv_at hl 2 rfl) ?_
          refine va_iald hx hb hK hP 1 0 rfl rfl (by first | exact vp_in_range c_1 c_20 (by omega) (by decide) | exact absurd (c_6.symm.trans e26_1) (by decide) | exact absurd (c_6.symm.trans e26_2) (by decide) | exact absurd (c_6.symm.trans e26_3) (by decide)) dX1_tell_61 ?_
          exact ret (fPD (ix k)) () _ _ _ _ dX1_tell_62 (by unfold tellC; grind) (hP) (hD) hS
        by_cases e26_1 : x = 1
        · refine lv_tableIn (tgt := 63) hx hb dX1_tell_26 (by rw [e26_1]; decide) (by rw [e26_1]; decide) (by rw [e26_1]; rfl) (by decide) ?_
          refine lv_aload_n hx hb dX1_tell_63 rfl (lv_at hl 0 rfl) ?_
          refine va_get (D := D) (ci := 1) (v := .ref aHS) (C := RX1) (T := TX1) (N := 10) hx hb hts inX1 hown hK hP 0 rfl rfl 2 (by decide) fl18 (fun _ h9 => h9) rfl dX1_tell_64 ?_
          refine lv_iload_n hx hb dX1_tell_67 rfl (lv_at hl 2 rfl) ?_
          refine va_iald hx hb hK hP 2 0 rfl rfl (by first | exact vp_in_range c_1 c_20 (by omega) (by decide) | exact absurd (c_6.symm.trans e26_1) (by decide) | exact absurd (c_6.symm.trans e26_2) (by decide) | exact absurd (c_6.symm.trans e26_3) (by decide)) dX1_tell_68 ?_
          exact ret (fHS (ix k)) () _ _ _ _ dX1_tell_69 (by unfold tellC; grind) (hP) (hD) hS
        by_cases e26_2 : x = 2
        · refine lv_tableIn (tgt := 70) hx hb dX1_tell_26 (by rw [e26_2]; decide) (by rw [e26_2]; decide) (by rw [e26_2]; rfl) (by decide) ?_
          refine lv_aload_n hx hb dX1_tell_70 rfl (lv_at hl 0 rfl) ?_
          refine va_get (D := D) (ci := 1) (v := .ref aFA) (C := RX1) (T := TX1) (N := 10) hx hb hts inX1 hown hK hP 0 rfl rfl 4 (by decide) fl24 (fun _ h9 => h9) rfl dX1_tell_71 ?_
          refine lv_iload_n hx hb dX1_tell_74 rfl (lv_at hl 2 rfl) ?_
          refine va_iald hx hb hK hP 3 0 rfl rfl (by first | exact vp_in_range c_1 c_20 (by omega) (by decide) | exact absurd (c_6.symm.trans e26_1) (by decide) | exact absurd (c_6.symm.trans e26_2) (by decide) | exact absurd (c_6.symm.trans e26_3) (by decide)) dX1_tell_75 ?_
          exact ret (fFA (ix k)) () _ _ _ _ dX1_tell_76 (by unfold tellC; grind) (hP) (hD) hS
        by_cases e26_3 : x = 3
        · refine lv_tableIn (tgt := 77) hx hb dX1_tell_26 (by rw [e26_3]; decide) (by rw [e26_3]; decide) (by rw [e26_3]; rfl) (by decide) ?_
          refine lv_aload_n hx hb dX1_tell_77 rfl (lv_at hl 0 rfl) ?_
          refine va_get (D := D) (ci := 1) (v := .ref aUN) (C := RX1) (T := TX1) (N := 10) hx hb hts inX1 hown hK hP 0 rfl rfl 3 (by decide) fl21 (fun _ h9 => h9) rfl dX1_tell_78 ?_
          refine lv_iload_n hx hb dX1_tell_81 rfl (lv_at hl 2 rfl) ?_
          refine va_iald hx hb hK hP 4 0 rfl rfl (by first | exact vp_in_range c_1 c_20 (by omega) (by decide) | exact absurd (c_6.symm.trans e26_1) (by decide) | exact absurd (c_6.symm.trans e26_2) (by decide) | exact absurd (c_6.symm.trans e26_3) (by decide)) dX1_tell_82 ?_
          exact ret (fUN (ix k)) () _ _ _ _ dX1_tell_83 (by unfold tellC; grind) (hP) (hD) hS
        refine lv_tableOut (tgt := 84) hx hb dX1_tell_26 (by have t0 := sw_ne (z := 0) (by decide) e26_0; have t1 := sw_ne (z := 1) (by decide) e26_1; have t2 := sw_ne (z := 2) (by decide) e26_2; have t3 := sw_ne (z := 3) (by decide) e26_3; omega) (by decide) ?_
        refine lv_iconst (v := (-1)) hx hb dX1_tell_84 (by decide) ?_
        exact ret (-1) () _ _ _ _ dX1_tell_85 (by unfold tellC; grind) (hP) (hD) hS
      · skip
        refine lv_iconst (v := (-1)) hx hb dX1_tell_23 (by decide) ?_
        exact ret (-1) () _ _ _ _ dX1_tell_24 (by unfold tellC; grind) (hP) (hD) hS
abbrev r_c_X1_takeStock : Room := { frames := 0, cells := 0, slots := 0, locals := 0 }
set_option maxHeartbeats 4000000 in
set_option maxRecDepth 100000 in
theorem c_X1_takeStock (l : Launch) (D : va_G) (cI cZ : ClassId) (aC : Nat) (aPD : Nat) (aOR : Nat) (aHS : Nat) (aUN : Nat) (aFA : Nat) (aLO : Nat) (aLA : Nat) (aT : Nat) (aPU : Nat) (aP : Nat) (aTD : Nat) (aTC : Nat) (aTK : Nat) (aTR : Nat) (aDY : Nat) (aCP : Nat) (aDB : Nat) (aCR : Nat) (aRK : Nat) (aLF : Nat) (fHS : Nat → Int32) (fUN : Nat → Int32) (fFA : Nat → Int32) (fLO : Nat → Int32) (fLA : Nat → Int32) (fPU : Nat → Int32) (c0 : Int32) (c1 : Int32) (cr : Int32) (nm : Nat) (td : Int32) (np : Nat) (hnm : nm ≤ 10) (hnp : np ≤ 40) : MV l yX1_takeStock wsX1_takeStock r_c_X1_takeStock D cI cZ [.ref aC, .ref aT] [ob aC 1 [.ref aPD, .ref aOR, .ref aHS, .ref aUN, .ref aFA, .ref aLO, .ref aLA, .int c0, .int c1, .int cr], ar cI aHS 10 fHS, ar cI aUN 10 fUN, ar cI aFA 10 fFA, ar cI aLO 10 fLO, ar cI aLA 10 fLA, ob aT 6 [.ref aPU, .ref aP, .int (nI nm), .int td], ar cI aPU 10 fPU, ob aP 3 [.ref aTD, .ref aTC, .ref aTK, .ref aTR, .ref aDY, .ref aCP, .ref aDB, .ref aCR, .ref aRK, .ref aLF, .int (nI np)]] (fun (u : (Nat → Int32) × (Nat → Int32) × (Nat → Int32) × (Nat → Int32) × (Nat → Int32)) => u.1 = fil fPU fHS nm ∧ u.2.1 = fil (fun _ => 0) fUN nm ∧ u.2.2.1 = fil (fun _ => 0) fFA nm ∧ u.2.2.2.1 = fil (fun _ => 0) fLO nm ∧ u.2.2.2.2 = fil (fun _ => nI np - 1) fLA nm) (fun (u : (Nat → Int32) × (Nat → Int32) × (Nat → Int32) × (Nat → Int32) × (Nat → Int32)) => [ob aC 1 [.ref aPD, .ref aOR, .ref aHS, .ref aUN, .ref aFA, .ref aLO, .ref aLA, .int (nI nm), .int (nI np), .int 0], ar cI aHS 10 u.1, ar cI aUN 10 u.2.1, ar cI aFA 10 u.2.2.1, ar cI aLO 10 u.2.2.2.1, ar cI aLA 10 u.2.2.2.2, ob aT 6 [.ref aPU, .ref aP, .int (nI nm), .int td], ar cI aPU 10 fPU, ob aP 3 [.ref aTD, .ref aTC, .ref aTK, .ref aTR, .ref aDY, .ref aCP, .ref aDB, .ref aCR, .ref aRK, .ref aLF, .int (nI np)]]) 0 0 := by
  refine MV.of (cc := cX1_takeStock) (maxL := 3) (by decide) rfl (Nat.le_of_ble_eq_true rfl) ?_
  intro p e s m below meth c A Q hx hb hml hown hts hN hK hA ret hP hD hS ls hl hmn
  have hown : s.vm.findClass RX1 = some m.cls := hown
  have inX1 : ∀ w ∈ wsX10, w ∈ wsX1_takeStock := by decide +kernel
  have inX3 : ∀ w ∈ wsX30, w ∈ wsX1_takeStock := by decide +kernel
  have inX6 : ∀ w ∈ wsX60, w ∈ wsX1_takeStock := by decide +kernel
  have fl18 := hts (.fieldLink RX1 18 "AdvanceBook$Clearing" "has" "[I") (by decide +kernel)
  have fl21 := hts (.fieldLink RX1 21 "AdvanceBook$Clearing" "unpaid" "[I") (by decide +kernel)
  have fl24 := hts (.fieldLink RX1 24 "AdvanceBook$Clearing" "failed" "[I") (by decide +kernel)
  have fl27 := hts (.fieldLink RX1 27 "AdvanceBook$Clearing" "lost" "[I") (by decide +kernel)
  have fl30 := hts (.fieldLink RX1 30 "AdvanceBook$Clearing" "lastInOrder" "[I") (by decide +kernel)
  have fl33 := hts (.fieldLink RX1 33 "AdvanceBook$Clearing" "men" "I") (by decide +kernel)
  have fl37 := hts (.fieldLink RX1 37 "AdvanceBook$Clearing" "papers" "I") (by decide +kernel)
  have fl40 := hts (.fieldLink RX1 40 "AdvanceBook$Clearing" "rounds" "I") (by decide +kernel)
  have fl47 : (Cond.fieldLinkNest RX1 47 "AdvanceBook$Town" "papers" "LAdvanceBook$Papers;" "AdvanceBook").before (([.ref aC, .ref aT] : List Value).toArray) s = true := nest_useF hN (by decide +kernel)
  have fl64 : (Cond.fieldLinkNest RX1 64 "AdvanceBook$Town" "men" "I" "AdvanceBook").before (([.ref aC, .ref aT] : List Value).toArray) s = true := nest_useF hN (by decide +kernel)
  have fl65 : (Cond.fieldLinkNest RX1 65 "AdvanceBook$Papers" "size" "I" "AdvanceBook").before (([.ref aC, .ref aT] : List Value).toArray) s = true := nest_useF hN (by decide +kernel)
  have fl70 : (Cond.fieldLinkNest RX1 70 "AdvanceBook$Town" "purses" "[I" "AdvanceBook").before (([.ref aC, .ref aT] : List Value).toArray) s = true := nest_useF hN (by decide +kernel)
  have hP : va_P D vwCl [ob aC 1 [.ref aPD, .ref aOR, .ref aHS, .ref aUN, .ref aFA, .ref aLO, .ref aLA, .int c0, .int c1, .int cr], ar cI aHS 10 fHS, ar cI aUN 10 fUN, ar cI aFA 10 fFA, ar cI aLO 10 fLO, ar cI aLA 10 fLA, ob aT 6 [.ref aPU, .ref aP, .int (nI nm), .int td], ar cI aPU 10 fPU, ob aP 3 [.ref aTD, .ref aTC, .ref aTK, .ref aTR, .ref aDY, .ref aCP, .ref aDB, .ref aCR, .ref aRK, .ref aLF, .int (nI np)]] s.heap := hP
  have hD : va_D A [ob aC 1 [.ref aPD, .ref aOR, .ref aHS, .ref aUN, .ref aFA, .ref aLO, .ref aLA, .int c0, .int c1, .int cr], ar cI aHS 10 fHS, ar cI aUN 10 fUN, ar cI aFA 10 fFA, ar cI aLO 10 fLO, ar cI aLA 10 fLA, ob aT 6 [.ref aPU, .ref aP, .int (nI nm), .int td], ar cI aPU 10 fPU, ob aP 3 [.ref aTD, .ref aTC, .ref aTK, .ref aTR, .ref aDY, .ref aCP, .ref aDB, .ref aCR, .ref aRK, .ref aLF, .int (nI np)]] := hD
  have hl : lv_has ls 3 [(0, .ref aC), (1, .ref aT)] := hl
  refine lv_aload_n hx hb dX1_takeStock_0 rfl (lv_at hl 0 rfl) ?_
  refine lv_aload_n hx hb dX1_takeStock_1 rfl (lv_at hl 1 rfl) ?_
  refine va_getN (D := D) (ci := 6) (v := .int (nI nm)) (C := RX6) (T := TX6) (N := 4) hx hb hts inX6 hown hK hP 6 rfl rfl 2 (by decide) fl64 (fun _ h9 => h9) rfl dX1_takeStock_2 ?_
  refine va_put (D := D) (ci := 1) (v := .int (nI nm)) (ty := .int) (C := RX1) (T := TX1) (N := 10) hx hb hts inX1 tyX1 tyX1_ok nmX1 hown hK hP hD hS 0 rfl rfl 7 (by decide) fl33 (fun _ h9 => h9) rfl (by decide +kernel) (rfl) (rfl) (Nat.le_of_ble_eq_true rfl) dX1_takeStock_5 (fun H locs hP hD hS => ?_)
  have hP : va_P D vwCl [ob aC 1 [.ref aPD, .ref aOR, .ref aHS, .ref aUN, .ref aFA, .ref aLO, .ref aLA, .int (nI nm), .int c1, .int cr], ar cI aHS 10 fHS, ar cI aUN 10 fUN, ar cI aFA 10 fFA, ar cI aLO 10 fLO, ar cI aLA 10 fLA, ob aT 6 [.ref aPU, .ref aP, .int (nI nm), .int td], ar cI aPU 10 fPU, ob aP 3 [.ref aTD, .ref aTC, .ref aTK, .ref aTR, .ref aDY, .ref aCP, .ref aDB, .ref aCR, .ref aRK, .ref aLF, .int (nI np)]] H := hP
  have hD : va_D A [ob aC 1 [.ref aPD, .ref aOR, .ref aHS, .ref aUN, .ref aFA, .ref aLO, .ref aLA, .int (nI nm), .int c1, .int cr], ar cI aHS 10 fHS, ar cI aUN 10 fUN, ar cI aFA 10 fFA, ar cI aLO 10 fLO, ar cI aLA 10 fLA, ob aT 6 [.ref aPU, .ref aP, .int (nI nm), .int td], ar cI aPU 10 fPU, ob aP 3 [.ref aTD, .ref aTC, .ref aTK, .ref aTR, .ref aDY, .ref aCP, .ref aDB, .ref aCR, .ref aRK, .ref aLF, .int (nI np)]] := hD
  refine lv_aload_n hx hb dX1_takeStock_8 rfl (lv_at hl 0 rfl) ?_
  refine lv_aload_n hx hb dX1_takeStock_9 rfl (lv_at hl 1 rfl) ?_
  refine va_getN (D := D) (ci := 6) (v := .ref aP) (C := RX6) (T := TX6) (N := 4) hx hb hts inX6 hown hK hP 6 rfl rfl 1 (by decide) fl47 (fun _ h9 => h9) rfl dX1_takeStock_10 ?_
  refine va_getN (D := D) (ci := 3) (v := .int (nI np)) (C := RX3) (T := TX3) (N := 11) hx hb hts inX3 hown hK hP 8 rfl rfl 10 (by decide) fl65 (fun _ h9 => h9) rfl dX1_takeStock_13 ?_
  refine va_put (D := D) (ci := 1) (v := .int (nI np)) (ty := .int) (C := RX1) (T := TX1) (N := 10) hx hb hts inX1 tyX1 tyX1_ok nmX1 hown hK hP hD hS 0 rfl rfl 8 (by decide) fl37 (fun _ h9 => h9) rfl (by decide +kernel) (rfl) (rfl) (Nat.le_of_ble_eq_true rfl) dX1_takeStock_16 (fun H locs hP hD hS => ?_)
  have hP : va_P D vwCl [ob aC 1 [.ref aPD, .ref aOR, .ref aHS, .ref aUN, .ref aFA, .ref aLO, .ref aLA, .int (nI nm), .int (nI np), .int cr], ar cI aHS 10 fHS, ar cI aUN 10 fUN, ar cI aFA 10 fFA, ar cI aLO 10 fLO, ar cI aLA 10 fLA, ob aT 6 [.ref aPU, .ref aP, .int (nI nm), .int td], ar cI aPU 10 fPU, ob aP 3 [.ref aTD, .ref aTC, .ref aTK, .ref aTR, .ref aDY, .ref aCP, .ref aDB, .ref aCR, .ref aRK, .ref aLF, .int (nI np)]] H := hP
  have hD : va_D A [ob aC 1 [.ref aPD, .ref aOR, .ref aHS, .ref aUN, .ref aFA, .ref aLO, .ref aLA, .int (nI nm), .int (nI np), .int cr], ar cI aHS 10 fHS, ar cI aUN 10 fUN, ar cI aFA 10 fFA, ar cI aLO 10 fLO, ar cI aLA 10 fLA, ob aT 6 [.ref aPU, .ref aP, .int (nI nm), .int td], ar cI aPU 10 fPU, ob aP 3 [.ref aTD, .ref aTC, .ref aTK, .ref aTR, .ref aDY, .ref aCP, .ref aDB, .ref aCR, .ref aRK, .ref aLF, .int (nI np)]] := hD
  refine lv_aload_n hx hb dX1_takeStock_19 rfl (lv_at hl 0 rfl) ?_
  refine lv_iconst (v := 0) hx hb dX1_takeStock_20 (by decide) ?_
  refine va_put (D := D) (ci := 1) (v := .int 0) (ty := .int) (C := RX1) (T := TX1) (N := 10) hx hb hts inX1 tyX1 tyX1_ok nmX1 hown hK hP hD hS 0 rfl rfl 9 (by decide) fl40 (fun _ h9 => h9) rfl (by decide +kernel) (rfl) (rfl) (Nat.le_of_ble_eq_true rfl) dX1_takeStock_21 (fun H locs hP hD hS => ?_)
  have hP : va_P D vwCl [ob aC 1 [.ref aPD, .ref aOR, .ref aHS, .ref aUN, .ref aFA, .ref aLO, .ref aLA, .int (nI nm), .int (nI np), .int 0], ar cI aHS 10 fHS, ar cI aUN 10 fUN, ar cI aFA 10 fFA, ar cI aLO 10 fLO, ar cI aLA 10 fLA, ob aT 6 [.ref aPU, .ref aP, .int (nI nm), .int td], ar cI aPU 10 fPU, ob aP 3 [.ref aTD, .ref aTC, .ref aTK, .ref aTR, .ref aDY, .ref aCP, .ref aDB, .ref aCR, .ref aRK, .ref aLF, .int (nI np)]] H := hP
  have hD : va_D A [ob aC 1 [.ref aPD, .ref aOR, .ref aHS, .ref aUN, .ref aFA, .ref aLO, .ref aLA, .int (nI nm), .int (nI np), .int 0], ar cI aHS 10 fHS, ar cI aUN 10 fUN, ar cI aFA 10 fFA, ar cI aLO 10 fLO, ar cI aLA 10 fLA, ob aT 6 [.ref aPU, .ref aP, .int (nI nm), .int td], ar cI aPU 10 fPU, ob aP 3 [.ref aTD, .ref aTC, .ref aTK, .ref aTR, .ref aDY, .ref aCP, .ref aDB, .ref aCR, .ref aRK, .ref aLF, .int (nI np)]] := hD
  refine lv_iconst (v := 0) hx hb dX1_takeStock_24 (by decide) ?_
  refine lv_istore_n (lv' := [(2, .int 0), (0, .ref aC), (1, .ref aT)]) hx hb dX1_takeStock_25 rfl hl (by decide) rfl (fun ls hl => ?_)
  have L_26 : ∀ (n_26 : Nat) (k : Nat) (hHS : Nat → Int32) (hUN : Nat → Int32) (hFA : Nat → Int32) (hLO : Nat → Int32) (hLA : Nat → Int32), (nm - k < n_26) → (k ≤ nm) → (hHS = fil fPU fHS k) → (hUN = fil (fun _ => 0) fUN k) → (hFA = fil (fun _ => 0) fFA k) → (hLO = fil (fun _ => 0) fLO k) → (hLA = fil (fun _ => nI np - 1) fLA k) → ∀ (H : Heap) (locs : List Loc), va_P D vwCl [ob aC 1 [.ref aPD, .ref aOR, .ref aHS, .ref aUN, .ref aFA, .ref aLO, .ref aLA, .int (nI nm), .int (nI np), .int 0], ar cI aHS 10 hHS, ar cI aUN 10 hUN, ar cI aFA 10 hFA, ar cI aLO 10 hLO, ar cI aLA 10 hLA, ob aT 6 [.ref aPU, .ref aP, .int (nI nm), .int td], ar cI aPU 10 fPU, ob aP 3 [.ref aTD, .ref aTC, .ref aTK, .ref aTR, .ref aDY, .ref aCP, .ref aDB, .ref aCR, .ref aRK, .ref aLF, .int (nI np)]] H → va_D A [ob aC 1 [.ref aPD, .ref aOR, .ref aHS, .ref aUN, .ref aFA, .ref aLO, .ref aLA, .int (nI nm), .int (nI np), .int 0], ar cI aHS 10 hHS, ar cI aUN 10 hUN, ar cI aFA 10 hFA, ar cI aLO 10 hLO, ar cI aLA 10 hLA, ob aT 6 [.ref aPU, .ref aP, .int (nI nm), .int td], ar cI aPU 10 fPU, ob aP 3 [.ref aTD, .ref aTC, .ref aTK, .ref aTR, .ref aDY, .ref aCP, .ref aDB, .ref aCR, .ref aRK, .ref aLF, .int (nI np)]] → va_S A s.heap H locs → ∀ ls : Array Slot, lv_has ls 3 [(0, .ref aC), (1, .ref aT), (2, .int (nI k))] → W p l e r_c_X1_takeStock s m (([.ref aC, .ref aT] : List Value).toArray) below meth c H locs 0 0 Q (F0 m 26 ls []) := by
    intro n_26
    induction n_26 with
    | zero => intro k hHS hUN hFA hLO hLA hfu; exact absurd hfu (Nat.not_lt_zero _)
    | succ n_26 ih_26 =>
      intro k hHS hUN hFA hLO hLA hfu_26 hk eHS eUN eFA eLO eLA H locs hP hD hS ls hl
      refine lv_iload_n hx hb dX1_takeStock_26 rfl (lv_at hl 2 rfl) ?_
      refine lv_aload_n hx hb dX1_takeStock_27 rfl (lv_at hl 0 rfl) ?_
      refine va_get (D := D) (ci := 1) (v := .int (nI nm)) (C := RX1) (T := TX1) (N := 10) hx hb hts inX1 hown hK hP 0 rfl rfl 7 (by decide) fl33 (fun _ h9 => h9) rfl dX1_takeStock_28 ?_
      refine lv_icmp_ge (tgt := 85) hx hb dX1_takeStock_31 (by decide) (fun c_31 => ?_) (fun c_31 => ?_)
      · skip
        have k_31 : nm ≤ k := (nI_leI (a := nm) (b := k) (by omega) (by omega)).mp c_31
        exact ret (hHS, hUN, hFA, hLO, hLA) _ _ _ _ dX1_takeStock_85 (by have e : k = nm := (by omega); subst e; exact ⟨eHS, eUN, eFA, eLO, eLA⟩) (hP) (hD) hS
      · skip
        have k_31 : ¬ nm ≤ k := fun h9 => c_31 ((nI_leI (a := nm) (b := k) (by omega) (by omega)).mpr h9)
        refine lv_aload_n hx hb dX1_takeStock_34 rfl (lv_at hl 0 rfl) ?_
        refine va_get (D := D) (ci := 1) (v := .ref aHS) (C := RX1) (T := TX1) (N := 10) hx hb hts inX1 hown hK hP 0 rfl rfl 2 (by decide) fl18 (fun _ h9 => h9) rfl dX1_takeStock_35 ?_
        refine lv_iload_n hx hb dX1_takeStock_38 rfl (lv_at hl 2 rfl) ?_
        refine lv_aload_n hx hb dX1_takeStock_39 rfl (lv_at hl 1 rfl) ?_
        refine va_getN (D := D) (ci := 6) (v := .ref aPU) (C := RX6) (T := TX6) (N := 4) hx hb hts inX6 hown hK hP 6 rfl rfl 0 (by decide) fl70 (fun _ h9 => h9) rfl dX1_takeStock_40 ?_
        refine lv_iload_n hx hb dX1_takeStock_43 rfl (lv_at hl 2 rfl) ?_
        refine m_iald (k := k) hx hb hK hP 7 0 rfl rfl (by omega) (by decide) dX1_takeStock_44 ?_
        refine m_iast (k := k) (x := (fPU k)) hx hb hK hP hD hS 1 0 rfl rfl (by omega) (by decide) dX1_takeStock_45 (fun H locs hP hD hS => ?_)
        have hP : va_P D vwCl [ob aC 1 [.ref aPD, .ref aOR, .ref aHS, .ref aUN, .ref aFA, .ref aLO, .ref aLA, .int (nI nm), .int (nI np), .int 0], ar cI aHS 10 (upd hHS k (fPU k)), ar cI aUN 10 hUN, ar cI aFA 10 hFA, ar cI aLO 10 hLO, ar cI aLA 10 hLA, ob aT 6 [.ref aPU, .ref aP, .int (nI nm), .int td], ar cI aPU 10 fPU, ob aP 3 [.ref aTD, .ref aTC, .ref aTK, .ref aTR, .ref aDY, .ref aCP, .ref aDB, .ref aCR, .ref aRK, .ref aLF, .int (nI np)]] H := hP
        have hD : va_D A [ob aC 1 [.ref aPD, .ref aOR, .ref aHS, .ref aUN, .ref aFA, .ref aLO, .ref aLA, .int (nI nm), .int (nI np), .int 0], ar cI aHS 10 (upd hHS k (fPU k)), ar cI aUN 10 hUN, ar cI aFA 10 hFA, ar cI aLO 10 hLO, ar cI aLA 10 hLA, ob aT 6 [.ref aPU, .ref aP, .int (nI nm), .int td], ar cI aPU 10 fPU, ob aP 3 [.ref aTD, .ref aTC, .ref aTK, .ref aTR, .ref aDY, .ref aCP, .ref aDB, .ref aCR, .ref aRK, .ref aLF, .int (nI np)]] := hD
        refine lv_aload_n hx hb dX1_takeStock_46 rfl (lv_at hl 0 rfl) ?_
        refine va_get (D := D) (ci := 1) (v := .ref aUN) (C := RX1) (T := TX1) (N := 10) hx hb hts inX1 hown hK hP 0 rfl rfl 3 (by decide) fl21 (fun _ h9 => h9) rfl dX1_takeStock_47 ?_
        refine lv_iload_n hx hb dX1_takeStock_50 rfl (lv_at hl 2 rfl) ?_
        refine lv_iconst (v := 0) hx hb dX1_takeStock_51 (by decide) ?_
        refine m_iast (k := k) (x := 0) hx hb hK hP hD hS 2 0 rfl rfl (by omega) (by decide) dX1_takeStock_52 (fun H locs hP hD hS => ?_)
        have hP : va_P D vwCl [ob aC 1 [.ref aPD, .ref aOR, .ref aHS, .ref aUN, .ref aFA, .ref aLO, .ref aLA, .int (nI nm), .int (nI np), .int 0], ar cI aHS 10 (upd hHS k (fPU k)), ar cI aUN 10 (upd hUN k 0), ar cI aFA 10 hFA, ar cI aLO 10 hLO, ar cI aLA 10 hLA, ob aT 6 [.ref aPU, .ref aP, .int (nI nm), .int td], ar cI aPU 10 fPU, ob aP 3 [.ref aTD, .ref aTC, .ref aTK, .ref aTR, .ref aDY, .ref aCP, .ref aDB, .ref aCR, .ref aRK, .ref aLF, .int (nI np)]] H := hP
        have hD : va_D A [ob aC 1 [.ref aPD, .ref aOR, .ref aHS, .ref aUN, .ref aFA, .ref aLO, .ref aLA, .int (nI nm), .int (nI np), .int 0], ar cI aHS 10 (upd hHS k (fPU k)), ar cI aUN 10 (upd hUN k 0), ar cI aFA 10 hFA, ar cI aLO 10 hLO, ar cI aLA 10 hLA, ob aT 6 [.ref aPU, .ref aP, .int (nI nm), .int td], ar cI aPU 10 fPU, ob aP 3 [.ref aTD, .ref aTC, .ref aTK, .ref aTR, .ref aDY, .ref aCP, .ref aDB, .ref aCR, .ref aRK, .ref aLF, .int (nI np)]] := hD
        refine lv_aload_n hx hb dX1_takeStock_53 rfl (lv_at hl 0 rfl) ?_
        refine va_get (D := D) (ci := 1) (v := .ref aFA) (C := RX1) (T := TX1) (N := 10) hx hb hts inX1 hown hK hP 0 rfl rfl 4 (by decide) fl24 (fun _ h9 => h9) rfl dX1_takeStock_54 ?_
        refine lv_iload_n hx hb dX1_takeStock_57 rfl (lv_at hl 2 rfl) ?_
        refine lv_iconst (v := 0) hx hb dX1_takeStock_58 (by decide) ?_
        refine m_iast (k := k) (x := 0) hx hb hK hP hD hS 3 0 rfl rfl (by omega) (by decide) dX1_takeStock_59 (fun H locs hP hD hS => ?_)
        have hP : va_P D vwCl [ob aC 1 [.ref aPD, .ref aOR, .ref aHS, .ref aUN, .ref aFA, .ref aLO, .ref aLA, .int (nI nm), .int (nI np), .int 0], ar cI aHS 10 (upd hHS k (fPU k)), ar cI aUN 10 (upd hUN k 0), ar cI aFA 10 (upd hFA k 0), ar cI aLO 10 hLO, ar cI aLA 10 hLA, ob aT 6 [.ref aPU, .ref aP, .int (nI nm), .int td], ar cI aPU 10 fPU, ob aP 3 [.ref aTD, .ref aTC, .ref aTK, .ref aTR, .ref aDY, .ref aCP, .ref aDB, .ref aCR, .ref aRK, .ref aLF, .int (nI np)]] H := hP
        have hD : va_D A [ob aC 1 [.ref aPD, .ref aOR, .ref aHS, .ref aUN, .ref aFA, .ref aLO, .ref aLA, .int (nI nm), .int (nI np), .int 0], ar cI aHS 10 (upd hHS k (fPU k)), ar cI aUN 10 (upd hUN k 0), ar cI aFA 10 (upd hFA k 0), ar cI aLO 10 hLO, ar cI aLA 10 hLA, ob aT 6 [.ref aPU, .ref aP, .int (nI nm), .int td], ar cI aPU 10 fPU, ob aP 3 [.ref aTD, .ref aTC, .ref aTK, .ref aTR, .ref aDY, .ref aCP, .ref aDB, .ref aCR, .ref aRK, .ref aLF, .int (nI np)]] := hD
        refine lv_aload_n hx hb dX1_takeStock_60 rfl (lv_at hl 0 rfl) ?_
        refine va_get (D := D) (ci := 1) (v := .ref aLO) (C := RX1) (T := TX1) (N := 10) hx hb hts inX1 hown hK hP 0 rfl rfl 5 (by decide) fl27 (fun _ h9 => h9) rfl dX1_takeStock_61 ?_
        refine lv_iload_n hx hb dX1_takeStock_64 rfl (lv_at hl 2 rfl) ?_
        refine lv_iconst (v := 0) hx hb dX1_takeStock_65 (by decide) ?_
        refine m_iast (k := k) (x := 0) hx hb hK hP hD hS 4 0 rfl rfl (by omega) (by decide) dX1_takeStock_66 (fun H locs hP hD hS => ?_)
        have hP : va_P D vwCl [ob aC 1 [.ref aPD, .ref aOR, .ref aHS, .ref aUN, .ref aFA, .ref aLO, .ref aLA, .int (nI nm), .int (nI np), .int 0], ar cI aHS 10 (upd hHS k (fPU k)), ar cI aUN 10 (upd hUN k 0), ar cI aFA 10 (upd hFA k 0), ar cI aLO 10 (upd hLO k 0), ar cI aLA 10 hLA, ob aT 6 [.ref aPU, .ref aP, .int (nI nm), .int td], ar cI aPU 10 fPU, ob aP 3 [.ref aTD, .ref aTC, .ref aTK, .ref aTR, .ref aDY, .ref aCP, .ref aDB, .ref aCR, .ref aRK, .ref aLF, .int (nI np)]] H := hP
        have hD : va_D A [ob aC 1 [.ref aPD, .ref aOR, .ref aHS, .ref aUN, .ref aFA, .ref aLO, .ref aLA, .int (nI nm), .int (nI np), .int 0], ar cI aHS 10 (upd hHS k (fPU k)), ar cI aUN 10 (upd hUN k 0), ar cI aFA 10 (upd hFA k 0), ar cI aLO 10 (upd hLO k 0), ar cI aLA 10 hLA, ob aT 6 [.ref aPU, .ref aP, .int (nI nm), .int td], ar cI aPU 10 fPU, ob aP 3 [.ref aTD, .ref aTC, .ref aTK, .ref aTR, .ref aDY, .ref aCP, .ref aDB, .ref aCR, .ref aRK, .ref aLF, .int (nI np)]] := hD
        refine lv_aload_n hx hb dX1_takeStock_67 rfl (lv_at hl 0 rfl) ?_
        refine va_get (D := D) (ci := 1) (v := .ref aLA) (C := RX1) (T := TX1) (N := 10) hx hb hts inX1 hown hK hP 0 rfl rfl 6 (by decide) fl30 (fun _ h9 => h9) rfl dX1_takeStock_68 ?_
        refine lv_iload_n hx hb dX1_takeStock_71 rfl (lv_at hl 2 rfl) ?_
        refine lv_aload_n hx hb dX1_takeStock_72 rfl (lv_at hl 0 rfl) ?_
        refine va_get (D := D) (ci := 1) (v := .int (nI np)) (C := RX1) (T := TX1) (N := 10) hx hb hts inX1 hown hK hP 0 rfl rfl 8 (by decide) fl37 (fun _ h9 => h9) rfl dX1_takeStock_73 ?_
        refine lv_iconst (v := 1) hx hb dX1_takeStock_76 (by decide) ?_
        refine lv_isub hx hb dX1_takeStock_77 ?_
        refine m_iast (k := k) (x := ((nI np) - 1)) hx hb hK hP hD hS 5 0 rfl rfl (by omega) (by decide) dX1_takeStock_78 (fun H locs hP hD hS => ?_)
        have hP : va_P D vwCl [ob aC 1 [.ref aPD, .ref aOR, .ref aHS, .ref aUN, .ref aFA, .ref aLO, .ref aLA, .int (nI nm), .int (nI np), .int 0], ar cI aHS 10 (upd hHS k (fPU k)), ar cI aUN 10 (upd hUN k 0), ar cI aFA 10 (upd hFA k 0), ar cI aLO 10 (upd hLO k 0), ar cI aLA 10 (upd hLA k ((nI np) - 1)), ob aT 6 [.ref aPU, .ref aP, .int (nI nm), .int td], ar cI aPU 10 fPU, ob aP 3 [.ref aTD, .ref aTC, .ref aTK, .ref aTR, .ref aDY, .ref aCP, .ref aDB, .ref aCR, .ref aRK, .ref aLF, .int (nI np)]] H := hP
        have hD : va_D A [ob aC 1 [.ref aPD, .ref aOR, .ref aHS, .ref aUN, .ref aFA, .ref aLO, .ref aLA, .int (nI nm), .int (nI np), .int 0], ar cI aHS 10 (upd hHS k (fPU k)), ar cI aUN 10 (upd hUN k 0), ar cI aFA 10 (upd hFA k 0), ar cI aLO 10 (upd hLO k 0), ar cI aLA 10 (upd hLA k ((nI np) - 1)), ob aT 6 [.ref aPU, .ref aP, .int (nI nm), .int td], ar cI aPU 10 fPU, ob aP 3 [.ref aTD, .ref aTC, .ref aTK, .ref aTR, .ref aDY, .ref aCP, .ref aDB, .ref aCR, .ref aRK, .ref aLF, .int (nI np)]] := hD
        refine lv_iinc (v := (nI (k + 1))) (lv' := [(2, .int (nI (k + 1))), (0, .ref aC), (1, .ref aT)]) hx hb dX1_takeStock_79 hl (k := 2) rfl (nI_inc k 1 (by decide)) (by decide) rfl (fun ls hl => ?_)
        refine lv_goto (tgt := 26) hx hb dX1_takeStock_82 (by decide) ?_
        exact ih_26 (k + 1) (upd hHS k (fPU k)) (upd hUN k 0) (upd hFA k 0) (upd hLO k 0) (upd hLA k ((nI np) - 1)) (by omega) (by omega) (fil_step eHS rfl) (fil_step eUN rfl) (fil_step eFA rfl) (fil_step eLO rfl) (fil_step eLA rfl) _ _ (hP) (hD) hS ls (lv_sub hl [1, 2, 0] rfl)
  exact L_26 ((nm - 0) + 1) 0 fHS fUN fFA fLO fLA (Nat.lt_succ_self _) (by omega) (fil_0.symm) (fil_0.symm) (fil_0.symm) (fil_0.symm) (fil_0.symm) _ _ (hP) (hD) hS ls (lv_sub hl [1, 2, 0] rfl)
abbrev r_c_X1_takeAllAsPaid : Room := { frames := 2, cells := 0, slots := 0, locals := 45 }
set_option maxHeartbeats 4000000 in
set_option maxRecDepth 100000 in
theorem c_X1_takeAllAsPaid (l : Launch) (D : va_G) (cI cZ : ClassId) (aC : Nat) (aPD : Nat) (aOR : Nat) (aHS : Nat) (aUN : Nat) (aFA : Nat) (aLO : Nat) (aLA : Nat) (aP : Nat) (aTD : Nat) (aTC : Nat) (aTK : Nat) (aTR : Nat) (aDY : Nat) (aCP : Nat) (aDB : Nat) (aCR : Nat) (aRK : Nat) (aLF : Nat) (aD : Nat) (aCU : Nat) (aMV : Nat) (fPD : Nat → Int32) (fHS : Nat → Int32) (fLF : Nat → Int32) (fRK : Nat → Int32) (fDY : Nat → Int32) (fDB : Nat → Int32) (fCR : Nat → Int32) (fCU : Nat → Int32) (c0 : Int32) (cr : Int32) (np : Nat) (sp : Int32) (bf : Int32) (ln : Int32) (hnp : np ≤ 40) (hrk : ∀ k, k < np → vp_in (fRK k) 4) (hdb : ∀ k, k < np → vp_in (fDB k) 10) (hcr : ∀ k, k < np → vp_in (fCR k) 10) : MV l yX1_takeAllAsPaid wsX1_takeAllAsPaid r_c_X1_takeAllAsPaid D cI cZ [.ref aC, .ref aP, .ref aD] [ob aC 1 [.ref aPD, .ref aOR, .ref aHS, .ref aUN, .ref aFA, .ref aLO, .ref aLA, .int c0, .int (nI np), .int cr], ar cI aPD 40 fPD, ar cI aHS 10 fHS, ob aP 3 [.ref aTD, .ref aTC, .ref aTK, .ref aTR, .ref aDY, .ref aCP, .ref aDB, .ref aCR, .ref aRK, .ref aLF, .int (nI np)], ar cI aLF 40 fLF, ar cI aRK 40 fRK, ar cI aDY 40 fDY, ar cI aDB 40 fDB, ar cI aCR 40 fCR, ob aD 2 [.ref aCU, .ref aMV, .int sp, .int bf, .int ln], ar cI aCU 4 fCU] (fun (u : (Nat → Int32) × (Nat → Int32)) => u.1 = fil (dueF fCU sp bf fLF fRK fDY) fPD np ∧ u.2 = takeS (dueF fCU sp bf fLF fRK fDY) (dbN fDB) (dbN fCR) fHS np) (fun (u : (Nat → Int32) × (Nat → Int32)) => [ob aC 1 [.ref aPD, .ref aOR, .ref aHS, .ref aUN, .ref aFA, .ref aLO, .ref aLA, .int c0, .int (nI np), .int cr], ar cI aPD 40 u.1, ar cI aHS 10 u.2, ob aP 3 [.ref aTD, .ref aTC, .ref aTK, .ref aTR, .ref aDY, .ref aCP, .ref aDB, .ref aCR, .ref aRK, .ref aLF, .int (nI np)], ar cI aLF 40 fLF, ar cI aRK 40 fRK, ar cI aDY 40 fDY, ar cI aDB 40 fDB, ar cI aCR 40 fCR, ob aD 2 [.ref aCU, .ref aMV, .int sp, .int bf, .int ln], ar cI aCU 4 fCU]) 0 0 := by
  refine MV.of (cc := cX1_takeAllAsPaid) (maxL := 5) (by decide) rfl (Nat.le_of_ble_eq_true rfl) ?_
  intro p e s m below meth c A Q hx hb hml hown hts hN hK hA ret hP hD hS ls hl hmn
  have hown : s.vm.findClass RX1 = some m.cls := hown
  have inX1 : ∀ w ∈ wsX10, w ∈ wsX1_takeAllAsPaid := by decide +kernel
  have inX3 : ∀ w ∈ wsX30, w ∈ wsX1_takeAllAsPaid := by decide +kernel
  have fl9 := hts (.fieldLink RX1 9 "AdvanceBook$Clearing" "paid" "[I") (by decide +kernel)
  have fl18 := hts (.fieldLink RX1 18 "AdvanceBook$Clearing" "has" "[I") (by decide +kernel)
  have fl37 := hts (.fieldLink RX1 37 "AdvanceBook$Clearing" "papers" "I") (by decide +kernel)
  have fl73 : (Cond.fieldLinkNest RX1 73 "AdvanceBook$Papers" "lefts" "[I" "AdvanceBook").before (([.ref aC, .ref aP, .ref aD] : List Value).toArray) s = true := nest_useF hN (by decide +kernel)
  have fl76 : (Cond.fieldLinkNest RX1 76 "AdvanceBook$Papers" "ranks" "[I" "AdvanceBook").before (([.ref aC, .ref aP, .ref aD] : List Value).toArray) s = true := nest_useF hN (by decide +kernel)
  have fl79 : (Cond.fieldLinkNest RX1 79 "AdvanceBook$Papers" "days" "[I" "AdvanceBook").before (([.ref aC, .ref aP, .ref aD] : List Value).toArray) s = true := nest_useF hN (by decide +kernel)
  have fl88 : (Cond.fieldLinkNest RX1 88 "AdvanceBook$Papers" "debtors" "[I" "AdvanceBook").before (([.ref aC, .ref aP, .ref aD] : List Value).toArray) s = true := nest_useF hN (by decide +kernel)
  have fl91 : (Cond.fieldLinkNest RX1 91 "AdvanceBook$Papers" "creditors" "[I" "AdvanceBook").before (([.ref aC, .ref aP, .ref aD] : List Value).toArray) s = true := nest_useF hN (by decide +kernel)
  have hP : va_P D vwCl [ob aC 1 [.ref aPD, .ref aOR, .ref aHS, .ref aUN, .ref aFA, .ref aLO, .ref aLA, .int c0, .int (nI np), .int cr], ar cI aPD 40 fPD, ar cI aHS 10 fHS, ob aP 3 [.ref aTD, .ref aTC, .ref aTK, .ref aTR, .ref aDY, .ref aCP, .ref aDB, .ref aCR, .ref aRK, .ref aLF, .int (nI np)], ar cI aLF 40 fLF, ar cI aRK 40 fRK, ar cI aDY 40 fDY, ar cI aDB 40 fDB, ar cI aCR 40 fCR, ob aD 2 [.ref aCU, .ref aMV, .int sp, .int bf, .int ln], ar cI aCU 4 fCU] s.heap := hP
  have hD : va_D A [ob aC 1 [.ref aPD, .ref aOR, .ref aHS, .ref aUN, .ref aFA, .ref aLO, .ref aLA, .int c0, .int (nI np), .int cr], ar cI aPD 40 fPD, ar cI aHS 10 fHS, ob aP 3 [.ref aTD, .ref aTC, .ref aTK, .ref aTR, .ref aDY, .ref aCP, .ref aDB, .ref aCR, .ref aRK, .ref aLF, .int (nI np)], ar cI aLF 40 fLF, ar cI aRK 40 fRK, ar cI aDY 40 fDY, ar cI aDB 40 fDB, ar cI aCR 40 fCR, ob aD 2 [.ref aCU, .ref aMV, .int sp, .int bf, .int ln], ar cI aCU 4 fCU] := hD
  have hl : lv_has ls 5 [(0, .ref aC), (1, .ref aP), (2, .ref aD)] := hl
  refine lv_iconst (v := 0) hx hb dX1_takeAllAsPaid_0 (by decide) ?_
  refine lv_istore_n (lv' := [(3, .int 0), (0, .ref aC), (1, .ref aP), (2, .ref aD)]) hx hb dX1_takeAllAsPaid_1 rfl hl (by decide) rfl (fun ls hl => ?_)
  have L_2 : ∀ (n_2 : Nat) (k : Nat) (hPD : Nat → Int32) (hHS : Nat → Int32), (np - k < n_2) → (k ≤ np) → (hPD = fil (dueF fCU sp bf fLF fRK fDY) fPD k) → (hHS = takeS (dueF fCU sp bf fLF fRK fDY) (dbN fDB) (dbN fCR) fHS k) → ∀ (H : Heap) (locs : List Loc), va_P D vwCl [ob aC 1 [.ref aPD, .ref aOR, .ref aHS, .ref aUN, .ref aFA, .ref aLO, .ref aLA, .int c0, .int (nI np), .int cr], ar cI aPD 40 hPD, ar cI aHS 10 hHS, ob aP 3 [.ref aTD, .ref aTC, .ref aTK, .ref aTR, .ref aDY, .ref aCP, .ref aDB, .ref aCR, .ref aRK, .ref aLF, .int (nI np)], ar cI aLF 40 fLF, ar cI aRK 40 fRK, ar cI aDY 40 fDY, ar cI aDB 40 fDB, ar cI aCR 40 fCR, ob aD 2 [.ref aCU, .ref aMV, .int sp, .int bf, .int ln], ar cI aCU 4 fCU] H → va_D A [ob aC 1 [.ref aPD, .ref aOR, .ref aHS, .ref aUN, .ref aFA, .ref aLO, .ref aLA, .int c0, .int (nI np), .int cr], ar cI aPD 40 hPD, ar cI aHS 10 hHS, ob aP 3 [.ref aTD, .ref aTC, .ref aTK, .ref aTR, .ref aDY, .ref aCP, .ref aDB, .ref aCR, .ref aRK, .ref aLF, .int (nI np)], ar cI aLF 40 fLF, ar cI aRK 40 fRK, ar cI aDY 40 fDY, ar cI aDB 40 fDB, ar cI aCR 40 fCR, ob aD 2 [.ref aCU, .ref aMV, .int sp, .int bf, .int ln], ar cI aCU 4 fCU] → va_S A s.heap H locs → ∀ ls : Array Slot, lv_has ls 5 [(0, .ref aC), (1, .ref aP), (2, .ref aD), (3, .int (nI k))] → W p l e r_c_X1_takeAllAsPaid s m (([.ref aC, .ref aP, .ref aD] : List Value).toArray) below meth c H locs 0 0 Q (F0 m 2 ls []) := by
    intro n_2
    induction n_2 with
    | zero => intro k hPD hHS hfu; exact absurd hfu (Nat.not_lt_zero _)
    | succ n_2 ih_2 =>
      intro k hPD hHS hfu_2 hk e1 e2 H locs hP hD hS ls hl
      refine lv_iload_n hx hb dX1_takeAllAsPaid_2 rfl (lv_at hl 3 rfl) ?_
      refine lv_aload_n hx hb dX1_takeAllAsPaid_3 rfl (lv_at hl 0 rfl) ?_
      refine va_get (D := D) (ci := 1) (v := .int (nI np)) (C := RX1) (T := TX1) (N := 10) hx hb hts inX1 hown hK hP 0 rfl rfl 8 (by decide) fl37 (fun _ h9 => h9) rfl dX1_takeAllAsPaid_4 ?_
      refine lv_icmp_ge (tgt := 80) hx hb dX1_takeAllAsPaid_7 (by decide) (fun c_7 => ?_) (fun c_7 => ?_)
      · skip
        have k_7 : np ≤ k := (nI_leI (a := np) (b := k) (by omega) (by omega)).mp c_7
        exact ret (hPD, hHS) _ _ _ _ dX1_takeAllAsPaid_80 (by have e : k = np := (by omega); subst e; exact ⟨e1, e2⟩) (hP) (hD) hS
      · skip
        have k_7 : ¬ np ≤ k := fun h9 => c_7 ((nI_leI (a := np) (b := k) (by omega) (by omega)).mpr h9)
        refine lv_aload_n hx hb dX1_takeAllAsPaid_10 rfl (lv_at hl 2 rfl) ?_
        refine lv_aload_n hx hb dX1_takeAllAsPaid_11 rfl (lv_at hl 1 rfl) ?_
        refine va_getN (D := D) (ci := 3) (v := .ref aLF) (C := RX3) (T := TX3) (N := 11) hx hb hts inX3 hown hK hP 3 rfl rfl 9 (by decide) fl73 (fun _ h9 => h9) rfl dX1_takeAllAsPaid_12 ?_
        refine lv_iload_n hx hb dX1_takeAllAsPaid_15 rfl (lv_at hl 3 rfl) ?_
        refine m_iald (k := k) hx hb hK hP 4 0 rfl rfl (by omega) (by decide) dX1_takeAllAsPaid_16 ?_
        refine lv_aload_n hx hb dX1_takeAllAsPaid_17 rfl (lv_at hl 1 rfl) ?_
        refine va_getN (D := D) (ci := 3) (v := .ref aRK) (C := RX3) (T := TX3) (N := 11) hx hb hts inX3 hown hK hP 3 rfl rfl 8 (by decide) fl76 (fun _ h9 => h9) rfl dX1_takeAllAsPaid_18 ?_
        refine lv_iload_n hx hb dX1_takeAllAsPaid_21 rfl (lv_at hl 3 rfl) ?_
        refine m_iald (k := k) hx hb hK hP 5 0 rfl rfl (by omega) (by decide) dX1_takeAllAsPaid_22 ?_
        refine lv_aload_n hx hb dX1_takeAllAsPaid_23 rfl (lv_at hl 1 rfl) ?_
        refine va_getN (D := D) (ci := 3) (v := .ref aDY) (C := RX3) (T := TX3) (N := 11) hx hb hts inX3 hown hK hP 3 rfl rfl 4 (by decide) fl79 (fun _ h9 => h9) rfl dX1_takeAllAsPaid_24 ?_
        refine lv_iload_n hx hb dX1_takeAllAsPaid_27 rfl (lv_at hl 3 rfl) ?_
        refine m_iald (k := k) hx hb hK hP 6 0 rfl rfl (by omega) (by decide) dX1_takeAllAsPaid_28 ?_
        refine m_cVi (As := [.int (fLF k), .int (fRK k), .int (fDY k)]) (rest := []) (wr := [ob aC 1 [.ref aPD, .ref aOR, .ref aHS, .ref aUN, .ref aFA, .ref aLO, .ref aLA, .int c0, .int (nI np), .int cr], ar cI aPD 40 hPD, ar cI aHS 10 hHS, ob aP 3 [.ref aTD, .ref aTC, .ref aTK, .ref aTR, .ref aDY, .ref aCP, .ref aDB, .ref aCR, .ref aRK, .ref aLF, .int (nI np)], ar cI aLF 40 fLF, ar cI aRK 40 fRK, ar cI aDY 40 fDY, ar cI aDB 40 fDB, ar cI aCR 40 fCR]) ⟨hx, hb, hml, hown, hts⟩ (c_X2_leftOf l D cI cZ aD aCU aMV fCU sp bf ln (fLF k) (fRK k) (fDY k) (hrk k (by omega))) (cwV 3 hts gX1_takeAllAsPaid_X2_leftOf rfl rfl rfl (by decide +kernel) ⟨Nat.le_of_ble_eq_true rfl, Nat.le_of_ble_eq_true rfl⟩) hN hK hP hD hS hA [9, 10] [0, 1, 2, 3, 4, 5, 6, 7, 8] rfl rfl (by decide) (by decide) (by decide) 0 (ci := 2) rfl rfl rfl rfl hl.1 rfl (Nat.le_of_ble_eq_true rfl) dX1_takeAllAsPaid_29 ⟨Nat.le_of_ble_eq_true rfl, Nat.le_of_ble_eq_true rfl⟩ (fun r_29 u_29 H locs hq_29 hP hD hS => ?_)
        have hq_29 : r_29 = dLeft fCU sp bf (fLF k) (fRK k) (fDY k) := hq_29
        have hP : va_P D vwCl [ob aC 1 [.ref aPD, .ref aOR, .ref aHS, .ref aUN, .ref aFA, .ref aLO, .ref aLA, .int c0, .int (nI np), .int cr], ar cI aPD 40 hPD, ar cI aHS 10 hHS, ob aP 3 [.ref aTD, .ref aTC, .ref aTK, .ref aTR, .ref aDY, .ref aCP, .ref aDB, .ref aCR, .ref aRK, .ref aLF, .int (nI np)], ar cI aLF 40 fLF, ar cI aRK 40 fRK, ar cI aDY 40 fDY, ar cI aDB 40 fDB, ar cI aCR 40 fCR, ob aD 2 [.ref aCU, .ref aMV, .int sp, .int bf, .int ln], ar cI aCU 4 fCU] H := hP
        have hD : va_D A [ob aC 1 [.ref aPD, .ref aOR, .ref aHS, .ref aUN, .ref aFA, .ref aLO, .ref aLA, .int c0, .int (nI np), .int cr], ar cI aPD 40 hPD, ar cI aHS 10 hHS, ob aP 3 [.ref aTD, .ref aTC, .ref aTK, .ref aTR, .ref aDY, .ref aCP, .ref aDB, .ref aCR, .ref aRK, .ref aLF, .int (nI np)], ar cI aLF 40 fLF, ar cI aRK 40 fRK, ar cI aDY 40 fDY, ar cI aDB 40 fDB, ar cI aCR 40 fCR, ob aD 2 [.ref aCU, .ref aMV, .int sp, .int bf, .int ln], ar cI aCU 4 fCU] := hD
        refine lv_istore (lv' := [(4, .int r_29), (0, .ref aC), (1, .ref aP), (2, .ref aD), (3, .int (nI k))]) hx hb dX1_takeAllAsPaid_32 hl (by decide) rfl (fun ls hl => ?_)
        refine lv_aload_n hx hb dX1_takeAllAsPaid_34 rfl (lv_at hl 1 rfl) ?_
        refine va_get (D := D) (ci := 1) (v := .ref aPD) (C := RX1) (T := TX1) (N := 10) hx hb hts inX1 hown hK hP 0 rfl rfl 0 (by decide) fl9 (fun _ h9 => h9) rfl dX1_takeAllAsPaid_35 ?_
        refine lv_iload_n hx hb dX1_takeAllAsPaid_38 rfl (lv_at hl 4 rfl) ?_
        refine lv_iload hx hb dX1_takeAllAsPaid_39 (lv_at hl 0 rfl) ?_
        refine m_iast (k := k) (x := r_29) hx hb hK hP hD hS 1 0 rfl rfl (by omega) (by decide) dX1_takeAllAsPaid_41 (fun H locs hP hD hS => ?_)
        have hP : va_P D vwCl [ob aC 1 [.ref aPD, .ref aOR, .ref aHS, .ref aUN, .ref aFA, .ref aLO, .ref aLA, .int c0, .int (nI np), .int cr], ar cI aPD 40 (upd hPD k r_29), ar cI aHS 10 hHS, ob aP 3 [.ref aTD, .ref aTC, .ref aTK, .ref aTR, .ref aDY, .ref aCP, .ref aDB, .ref aCR, .ref aRK, .ref aLF, .int (nI np)], ar cI aLF 40 fLF, ar cI aRK 40 fRK, ar cI aDY 40 fDY, ar cI aDB 40 fDB, ar cI aCR 40 fCR, ob aD 2 [.ref aCU, .ref aMV, .int sp, .int bf, .int ln], ar cI aCU 4 fCU] H := hP
        have hD : va_D A [ob aC 1 [.ref aPD, .ref aOR, .ref aHS, .ref aUN, .ref aFA, .ref aLO, .ref aLA, .int c0, .int (nI np), .int cr], ar cI aPD 40 (upd hPD k r_29), ar cI aHS 10 hHS, ob aP 3 [.ref aTD, .ref aTC, .ref aTK, .ref aTR, .ref aDY, .ref aCP, .ref aDB, .ref aCR, .ref aRK, .ref aLF, .int (nI np)], ar cI aLF 40 fLF, ar cI aRK 40 fRK, ar cI aDY 40 fDY, ar cI aDB 40 fDB, ar cI aCR 40 fCR, ob aD 2 [.ref aCU, .ref aMV, .int sp, .int bf, .int ln], ar cI aCU 4 fCU] := hD
        refine lv_aload_n hx hb dX1_takeAllAsPaid_42 rfl (lv_at hl 1 rfl) ?_
        refine va_get (D := D) (ci := 1) (v := .ref aHS) (C := RX1) (T := TX1) (N := 10) hx hb hts inX1 hown hK hP 0 rfl rfl 2 (by decide) fl18 (fun _ h9 => h9) rfl dX1_takeAllAsPaid_43 ?_
        refine lv_aload_n hx hb dX1_takeAllAsPaid_46 rfl (lv_at hl 2 rfl) ?_
        refine va_getN (D := D) (ci := 3) (v := .ref aDB) (C := RX3) (T := TX3) (N := 11) hx hb hts inX3 hown hK hP 3 rfl rfl 6 (by decide) fl88 (fun _ h9 => h9) rfl dX1_takeAllAsPaid_47 ?_
        refine lv_iload_n hx hb dX1_takeAllAsPaid_50 rfl (lv_at hl 4 rfl) ?_
        refine m_iald (k := k) hx hb hK hP 7 0 rfl rfl (by omega) (by decide) dX1_takeAllAsPaid_51 ?_
        refine lv_dup2_11 hx hb dX1_takeAllAsPaid_52 rfl rfl ?_
        refine va_iald hx hb hK hP 2 0 rfl rfl (hdb k (by omega)) dX1_takeAllAsPaid_53 ?_
        refine lv_iload hx hb dX1_takeAllAsPaid_54 (lv_at hl 0 rfl) ?_
        refine lv_isub hx hb dX1_takeAllAsPaid_56 ?_
        refine va_iast (x := ((hHS (ix (fDB k))) - r_29)) hx hb hK hP hD hS 2 0 rfl rfl (hdb k (by omega)) dX1_takeAllAsPaid_57 (fun H locs hP hD hS => ?_)
        have hP : va_P D vwCl [ob aC 1 [.ref aPD, .ref aOR, .ref aHS, .ref aUN, .ref aFA, .ref aLO, .ref aLA, .int c0, .int (nI np), .int cr], ar cI aPD 40 (upd hPD k r_29), ar cI aHS 10 (upd hHS (ix (fDB k)) ((hHS (ix (fDB k))) - r_29)), ob aP 3 [.ref aTD, .ref aTC, .ref aTK, .ref aTR, .ref aDY, .ref aCP, .ref aDB, .ref aCR, .ref aRK, .ref aLF, .int (nI np)], ar cI aLF 40 fLF, ar cI aRK 40 fRK, ar cI aDY 40 fDY, ar cI aDB 40 fDB, ar cI aCR 40 fCR, ob aD 2 [.ref aCU, .ref aMV, .int sp, .int bf, .int ln], ar cI aCU 4 fCU] H := hP
        have hD : va_D A [ob aC 1 [.ref aPD, .ref aOR, .ref aHS, .ref aUN, .ref aFA, .ref aLO, .ref aLA, .int c0, .int (nI np), .int cr], ar cI aPD 40 (upd hPD k r_29), ar cI aHS 10 (upd hHS (ix (fDB k)) ((hHS (ix (fDB k))) - r_29)), ob aP 3 [.ref aTD, .ref aTC, .ref aTK, .ref aTR, .ref aDY, .ref aCP, .ref aDB, .ref aCR, .ref aRK, .ref aLF, .int (nI np)], ar cI aLF 40 fLF, ar cI aRK 40 fRK, ar cI aDY 40 fDY, ar cI aDB 40 fDB, ar cI aCR 40 fCR, ob aD 2 [.ref aCU, .ref aMV, .int sp, .int bf, .int ln], ar cI aCU 4 fCU] := hD
        refine lv_aload_n hx hb dX1_takeAllAsPaid_58 rfl (lv_at hl 1 rfl) ?_
        refine va_get (D := D) (ci := 1) (v := .ref aHS) (C := RX1) (T := TX1) (N := 10) hx hb hts inX1 hown hK hP 0 rfl rfl 2 (by decide) fl18 (fun _ h9 => h9) rfl dX1_takeAllAsPaid_59 ?_
        refine lv_aload_n hx hb dX1_takeAllAsPaid_62 rfl (lv_at hl 2 rfl) ?_
        refine va_getN (D := D) (ci := 3) (v := .ref aCR) (C := RX3) (T := TX3) (N := 11) hx hb hts inX3 hown hK hP 3 rfl rfl 7 (by decide) fl91 (fun _ h9 => h9) rfl dX1_takeAllAsPaid_63 ?_
        refine lv_iload_n hx hb dX1_takeAllAsPaid_66 rfl (lv_at hl 4 rfl) ?_
        refine m_iald (k := k) hx hb hK hP 8 0 rfl rfl (by omega) (by decide) dX1_takeAllAsPaid_67 ?_
        refine lv_dup2_11 hx hb dX1_takeAllAsPaid_68 rfl rfl ?_
        refine va_iald hx hb hK hP 2 0 rfl rfl (hcr k (by omega)) dX1_takeAllAsPaid_69 ?_
        refine lv_iload hx hb dX1_takeAllAsPaid_70 (lv_at hl 0 rfl) ?_
        refine lv_iadd hx hb dX1_takeAllAsPaid_72 ?_
        refine va_iast (x := (((upd hHS (ix (fDB k)) ((hHS (ix (fDB k))) - r_29)) (ix (fCR k))) + r_29)) hx hb hK hP hD hS 2 0 rfl rfl (hcr k (by omega)) dX1_takeAllAsPaid_73 (fun H locs hP hD hS => ?_)
        have hP : va_P D vwCl [ob aC 1 [.ref aPD, .ref aOR, .ref aHS, .ref aUN, .ref aFA, .ref aLO, .ref aLA, .int c0, .int (nI np), .int cr], ar cI aPD 40 (upd hPD k r_29), ar cI aHS 10 (upd (upd hHS (ix (fDB k)) ((hHS (ix (fDB k))) - r_29)) (ix (fCR k)) (((upd hHS (ix (fDB k)) ((hHS (ix (fDB k))) - r_29)) (ix (fCR k))) + r_29)), ob aP 3 [.ref aTD, .ref aTC, .ref aTK, .ref aTR, .ref aDY, .ref aCP, .ref aDB, .ref aCR, .ref aRK, .ref aLF, .int (nI np)], ar cI aLF 40 fLF, ar cI aRK 40 fRK, ar cI aDY 40 fDY, ar cI aDB 40 fDB, ar cI aCR 40 fCR, ob aD 2 [.ref aCU, .ref aMV, .int sp, .int bf, .int ln], ar cI aCU 4 fCU] H := hP
        have hD : va_D A [ob aC 1 [.ref aPD, .ref aOR, .ref aHS, .ref aUN, .ref aFA, .ref aLO, .ref aLA, .int c0, .int (nI np), .int cr], ar cI aPD 40 (upd hPD k r_29), ar cI aHS 10 (upd (upd hHS (ix (fDB k)) ((hHS (ix (fDB k))) - r_29)) (ix (fCR k)) (((upd hHS (ix (fDB k)) ((hHS (ix (fDB k))) - r_29)) (ix (fCR k))) + r_29)), ob aP 3 [.ref aTD, .ref aTC, .ref aTK, .ref aTR, .ref aDY, .ref aCP, .ref aDB, .ref aCR, .ref aRK, .ref aLF, .int (nI np)], ar cI aLF 40 fLF, ar cI aRK 40 fRK, ar cI aDY 40 fDY, ar cI aDB 40 fDB, ar cI aCR 40 fCR, ob aD 2 [.ref aCU, .ref aMV, .int sp, .int bf, .int ln], ar cI aCU 4 fCU] := hD
        refine lv_iinc (v := (nI (k + 1))) (lv' := [(3, .int (nI (k + 1))), (4, .int r_29), (0, .ref aC), (1, .ref aP), (2, .ref aD)]) hx hb dX1_takeAllAsPaid_74 hl (k := 4) rfl (nI_inc k 1 (by decide)) (by decide) rfl (fun ls hl => ?_)
        refine lv_goto (tgt := 2) hx hb dX1_takeAllAsPaid_77 (by decide) ?_
        exact ih_2 (k + 1) (upd hPD k r_29) (upd (upd hHS (ix (fDB k)) ((hHS (ix (fDB k))) - r_29)) (ix (fCR k)) (((upd hHS (ix (fDB k)) ((hHS (ix (fDB k))) - r_29)) (ix (fCR k))) + r_29)) (by omega) (by omega) (fil_step e1 hq_29) (by rw [hq_29, e2]; rfl) _ _ (hP) (hD) hS ls (lv_sub hl [2, 3, 4, 0] rfl)
  exact L_2 ((np - 0) + 1) 0 fPD fHS (Nat.lt_succ_self _) (by omega) (fil_0.symm) (rfl) _ _ (hP) (hD) hS ls (lv_sub hl [1, 2, 3, 0] rfl)
abbrev r_c_X1_putInOrder : Room := { frames := 2, cells := 0, slots := 0, locals := 43 }
set_option maxHeartbeats 4000000 in
set_option maxRecDepth 100000 in
theorem c_X1_putInOrder (l : Launch) (D : va_G) (cI cZ : ClassId) (aC : Nat) (aPD : Nat) (aOR : Nat) (aHS : Nat) (aUN : Nat) (aFA : Nat) (aLO : Nat) (aLA : Nat) (aP : Nat) (aTD : Nat) (aTC : Nat) (aTK : Nat) (aTR : Nat) (aDY : Nat) (aCP : Nat) (aDB : Nat) (aCR : Nat) (aRK : Nat) (aLF : Nat) (aD : Nat) (aCU : Nat) (aMV : Nat) (fOR : Nat → Int32) (fRK : Nat → Int32) (fDY : Nat → Int32) (fMV : Nat → Int32) (c0 : Int32) (cr : Int32) (np : Nat) (sp : Int32) (bf : Int32) (ln : Int32) (hnp : np ≤ 40) (hrk : ∀ k, k < np → vp_in (fRK k) 4) : MV l yX1_putInOrder wsX1_putInOrder r_c_X1_putInOrder D cI cZ [.ref aC, .ref aP, .ref aD] [ob aC 1 [.ref aPD, .ref aOR, .ref aHS, .ref aUN, .ref aFA, .ref aLO, .ref aLA, .int c0, .int (nI np), .int cr], ar cI aOR 40 fOR, ob aP 3 [.ref aTD, .ref aTC, .ref aTK, .ref aTR, .ref aDY, .ref aCP, .ref aDB, .ref aCR, .ref aRK, .ref aLF, .int (nI np)], ar cI aRK 40 fRK, ar cI aDY 40 fDY, ob aD 2 [.ref aCU, .ref aMV, .int sp, .int bf, .int ln], ar cI aMV 4 fMV] (fun (u : (Nat → Int32)) => holdsO u (ordO (rkF fMV bf fRK fDY) np 4)) (fun (u : (Nat → Int32)) => [ob aC 1 [.ref aPD, .ref aOR, .ref aHS, .ref aUN, .ref aFA, .ref aLO, .ref aLA, .int c0, .int (nI np), .int cr], ar cI aOR 40 u, ob aP 3 [.ref aTD, .ref aTC, .ref aTK, .ref aTR, .ref aDY, .ref aCP, .ref aDB, .ref aCR, .ref aRK, .ref aLF, .int (nI np)], ar cI aRK 40 fRK, ar cI aDY 40 fDY, ob aD 2 [.ref aCU, .ref aMV, .int sp, .int bf, .int ln], ar cI aMV 4 fMV]) 0 0 := by
  refine MV.of (cc := cX1_putInOrder) (maxL := 6) (by decide) rfl (Nat.le_of_ble_eq_true rfl) ?_
  intro p e s m below meth c A Q hx hb hml hown hts hN hK hA ret hP hD hS ls hl hmn
  have hown : s.vm.findClass RX1 = some m.cls := hown
  have inX1 : ∀ w ∈ wsX10, w ∈ wsX1_putInOrder := by decide +kernel
  have inX3 : ∀ w ∈ wsX30, w ∈ wsX1_putInOrder := by decide +kernel
  have fl15 := hts (.fieldLink RX1 15 "AdvanceBook$Clearing" "order" "[I") (by decide +kernel)
  have fl37 := hts (.fieldLink RX1 37 "AdvanceBook$Clearing" "papers" "I") (by decide +kernel)
  have fl76 : (Cond.fieldLinkNest RX1 76 "AdvanceBook$Papers" "ranks" "[I" "AdvanceBook").before (([.ref aC, .ref aP, .ref aD] : List Value).toArray) s = true := nest_useF hN (by decide +kernel)
  have fl79 : (Cond.fieldLinkNest RX1 79 "AdvanceBook$Papers" "days" "[I" "AdvanceBook").before (([.ref aC, .ref aP, .ref aD] : List Value).toArray) s = true := nest_useF hN (by decide +kernel)
  have hP : va_P D vwCl [ob aC 1 [.ref aPD, .ref aOR, .ref aHS, .ref aUN, .ref aFA, .ref aLO, .ref aLA, .int c0, .int (nI np), .int cr], ar cI aOR 40 fOR, ob aP 3 [.ref aTD, .ref aTC, .ref aTK, .ref aTR, .ref aDY, .ref aCP, .ref aDB, .ref aCR, .ref aRK, .ref aLF, .int (nI np)], ar cI aRK 40 fRK, ar cI aDY 40 fDY, ob aD 2 [.ref aCU, .ref aMV, .int sp, .int bf, .int ln], ar cI aMV 4 fMV] s.heap := hP
  have hD : va_D A [ob aC 1 [.ref aPD, .ref aOR, .ref aHS, .ref aUN, .ref aFA, .ref aLO, .ref aLA, .int c0, .int (nI np), .int cr], ar cI aOR 40 fOR, ob aP 3 [.ref aTD, .ref aTC, .ref aTK, .ref aTR, .ref aDY, .ref aCP, .ref aDB, .ref aCR, .ref aRK, .ref aLF, .int (nI np)], ar cI aRK 40 fRK, ar cI aDY 40 fDY, ob aD 2 [.ref aCU, .ref aMV, .int sp, .int bf, .int ln], ar cI aMV 4 fMV] := hD
  have hl : lv_has ls 6 [(0, .ref aC), (1, .ref aP), (2, .ref aD)] := hl
  refine lv_iconst (v := 0) hx hb dX1_putInOrder_0 (by decide) ?_
  refine lv_istore_n (lv' := [(3, .int 0), (0, .ref aC), (1, .ref aP), (2, .ref aD)]) hx hb dX1_putInOrder_1 rfl hl (by decide) rfl (fun ls hl => ?_)
  refine lv_iconst (v := 0) hx hb dX1_putInOrder_2 (by decide) ?_
  refine lv_istore (lv' := [(4, .int 0), (3, .int 0), (0, .ref aC), (1, .ref aP), (2, .ref aD)]) hx hb dX1_putInOrder_3 hl (by decide) rfl (fun ls hl => ?_)
  have L_5 : ∀ (n_5 : Nat) (rr : Nat) (pl : Nat) (hOR : Nat → Int32), (4 - rr < n_5) → (rr ≤ 4) → (holdsO hOR (ordO (rkF fMV bf fRK fDY) np rr)) → (pl = (ordO (rkF fMV bf fRK fDY) np rr).length) → ∀ (H : Heap) (locs : List Loc), va_P D vwCl [ob aC 1 [.ref aPD, .ref aOR, .ref aHS, .ref aUN, .ref aFA, .ref aLO, .ref aLA, .int c0, .int (nI np), .int cr], ar cI aOR 40 hOR, ob aP 3 [.ref aTD, .ref aTC, .ref aTK, .ref aTR, .ref aDY, .ref aCP, .ref aDB, .ref aCR, .ref aRK, .ref aLF, .int (nI np)], ar cI aRK 40 fRK, ar cI aDY 40 fDY, ob aD 2 [.ref aCU, .ref aMV, .int sp, .int bf, .int ln], ar cI aMV 4 fMV] H → va_D A [ob aC 1 [.ref aPD, .ref aOR, .ref aHS, .ref aUN, .ref aFA, .ref aLO, .ref aLA, .int c0, .int (nI np), .int cr], ar cI aOR 40 hOR, ob aP 3 [.ref aTD, .ref aTC, .ref aTK, .ref aTR, .ref aDY, .ref aCP, .ref aDB, .ref aCR, .ref aRK, .ref aLF, .int (nI np)], ar cI aRK 40 fRK, ar cI aDY 40 fDY, ob aD 2 [.ref aCU, .ref aMV, .int sp, .int bf, .int ln], ar cI aMV 4 fMV] → va_S A s.heap H locs → ∀ ls : Array Slot, lv_has ls 6 [(0, .ref aC), (1, .ref aP), (2, .ref aD), (3, .int (nI pl)), (4, .int (nI rr))] → W p l e r_c_X1_putInOrder s m (([.ref aC, .ref aP, .ref aD] : List Value).toArray) below meth c H locs 0 0 Q (F0 m 5 ls []) := by
    intro n_5
    induction n_5 with
    | zero => intro rr pl hOR hfu; exact absurd hfu (Nat.not_lt_zero _)
    | succ n_5 ih_5 =>
      intro rr pl hOR hfu_5 hr h1 h2 H locs hP hD hS ls hl
      have hlen := ordO_len (rkF fMV bf fRK fDY) np rr hr
      refine lv_iload hx hb dX1_putInOrder_5 (lv_at hl 4 rfl) ?_
      refine lv_iconst (v := 4) hx hb dX1_putInOrder_7 (by decide) ?_
      refine lv_icmp_ge (tgt := 75) hx hb dX1_putInOrder_8 (by decide) (fun c_8 => ?_) (fun c_8 => ?_)
      · skip
        have k_8 : 4 ≤ rr := (nI_leI (a := 4) (b := rr) (by omega) (by omega)).mp c_8
        exact ret hOR _ _ _ _ dX1_putInOrder_75 (by have e : rr = 4 := (by omega); subst e; exact h1) (hP) (hD) hS
      · skip
        have k_8 : ¬ 4 ≤ rr := fun h9 => c_8 ((nI_leI (a := 4) (b := rr) (by omega) (by omega)).mpr h9)
        refine lv_iconst (v := 0) hx hb dX1_putInOrder_11 (by decide) ?_
        refine lv_istore (lv' := [(5, .int 0), (0, .ref aC), (1, .ref aP), (2, .ref aD), (3, .int (nI pl)), (4, .int (nI rr))]) hx hb dX1_putInOrder_12 hl (by decide) rfl (fun ls hl => ?_)
        have L_14 : ∀ (n_14 : Nat) (k : Nat) (pl2 : Nat) (h2OR : Nat → Int32), (np - k < n_14) → (k ≤ np) → (holdsO h2OR (ordO (rkF fMV bf fRK fDY) np rr ++ rowO (rkF fMV bf fRK fDY) rr k)) → (pl2 = (ordO (rkF fMV bf fRK fDY) np rr ++ rowO (rkF fMV bf fRK fDY) rr k).length) → ∀ (H : Heap) (locs : List Loc), va_P D vwCl [ob aC 1 [.ref aPD, .ref aOR, .ref aHS, .ref aUN, .ref aFA, .ref aLO, .ref aLA, .int c0, .int (nI np), .int cr], ar cI aOR 40 h2OR, ob aP 3 [.ref aTD, .ref aTC, .ref aTK, .ref aTR, .ref aDY, .ref aCP, .ref aDB, .ref aCR, .ref aRK, .ref aLF, .int (nI np)], ar cI aRK 40 fRK, ar cI aDY 40 fDY, ob aD 2 [.ref aCU, .ref aMV, .int sp, .int bf, .int ln], ar cI aMV 4 fMV] H → va_D A [ob aC 1 [.ref aPD, .ref aOR, .ref aHS, .ref aUN, .ref aFA, .ref aLO, .ref aLA, .int c0, .int (nI np), .int cr], ar cI aOR 40 h2OR, ob aP 3 [.ref aTD, .ref aTC, .ref aTK, .ref aTR, .ref aDY, .ref aCP, .ref aDB, .ref aCR, .ref aRK, .ref aLF, .int (nI np)], ar cI aRK 40 fRK, ar cI aDY 40 fDY, ob aD 2 [.ref aCU, .ref aMV, .int sp, .int bf, .int ln], ar cI aMV 4 fMV] → va_S A s.heap H locs → ∀ ls : Array Slot, lv_has ls 6 [(0, .ref aC), (1, .ref aP), (2, .ref aD), (3, .int (nI pl2)), (4, .int (nI rr)), (5, .int (nI k))] → W p l e r_c_X1_putInOrder s m (([.ref aC, .ref aP, .ref aD] : List Value).toArray) below meth c H locs 0 0 Q (F0 m 14 ls []) := by
          intro n_14
          induction n_14 with
          | zero => intro k pl2 h2OR hfu; exact absurd hfu (Nat.not_lt_zero _)
          | succ n_14 ih_14 =>
            intro k pl2 h2OR hfu_14 hk h3 h4 H locs hP hD hS ls hl
            have hlk := ordO_lt (rkF fMV bf fRK fDY) np rr k (by omega) hk
            refine lv_iload hx hb dX1_putInOrder_14 (lv_at hl 5 rfl) ?_
            refine lv_aload_n hx hb dX1_putInOrder_16 rfl (lv_at hl 0 rfl) ?_
            refine va_get (D := D) (ci := 1) (v := .int (nI np)) (C := RX1) (T := TX1) (N := 10) hx hb hts inX1 hown hK hP 0 rfl rfl 8 (by decide) fl37 (fun _ h9 => h9) rfl dX1_putInOrder_17 ?_
            refine lv_icmp_ge (tgt := 69) hx hb dX1_putInOrder_20 (by decide) (fun c_20 => ?_) (fun c_20 => ?_)
            · skip
              have k_20 : np ≤ k := (nI_leI (a := np) (b := k) (by omega) (by omega)).mp c_20
              refine lv_iinc (v := (nI (rr + 1))) (lv' := [(4, .int (nI (rr + 1))), (0, .ref aC), (1, .ref aP), (2, .ref aD), (3, .int (nI pl2)), (5, .int (nI k))]) hx hb dX1_putInOrder_69 hl (k := 4) rfl (nI_inc rr 1 (by decide)) (by decide) rfl (fun ls hl => ?_)
              refine lv_goto (tgt := 5) hx hb dX1_putInOrder_72 (by decide) ?_
              have hrow := ordO_row (rk := (rkF fMV bf fRK fDY)) (n := np) (r := rr) (k := k) (by omega) hk hnp (by first | exact Or.inl k_20 | exact Or.inr (by omega))
              exact ih_5 (rr + 1) pl2 h2OR (by omega) (by omega) (by rw [hrow]; exact h3) (by rw [hrow]; exact h4) _ _ (hP) (hD) hS ls (lv_sub hl [1, 2, 3, 4, 0] rfl)
            · skip
              have k_20 : ¬ np ≤ k := fun h9 => c_20 ((nI_leI (a := np) (b := k) (by omega) (by omega)).mpr h9)
              refine lv_iload_n hx hb dX1_putInOrder_23 rfl (lv_at hl 3 rfl) ?_
              refine lv_bipush (v := 40) hx hb dX1_putInOrder_24 (by decide) ?_
              refine lv_icmp_ge (tgt := 69) hx hb dX1_putInOrder_26 (by decide) (fun c_26 => ?_) (fun c_26 => ?_)
              · skip
                have k_26 : 40 ≤ pl2 := (nI_leI (a := 40) (b := pl2) (by omega) (by omega)).mp c_26
                refine lv_iinc (v := (nI (rr + 1))) (lv' := [(4, .int (nI (rr + 1))), (0, .ref aC), (1, .ref aP), (2, .ref aD), (3, .int (nI pl2)), (5, .int (nI k))]) hx hb dX1_putInOrder_69 hl (k := 4) rfl (nI_inc rr 1 (by decide)) (by decide) rfl (fun ls hl => ?_)
                refine lv_goto (tgt := 5) hx hb dX1_putInOrder_72 (by decide) ?_
                have hrow := ordO_row (rk := (rkF fMV bf fRK fDY)) (n := np) (r := rr) (k := k) (by omega) hk hnp (by first | exact Or.inl k_20 | exact Or.inr (by omega))
                exact ih_5 (rr + 1) pl2 h2OR (by omega) (by omega) (by rw [hrow]; exact h3) (by rw [hrow]; exact h4) _ _ (hP) (hD) hS ls (lv_sub hl [1, 2, 3, 4, 0] rfl)
              · skip
                have k_26 : ¬ 40 ≤ pl2 := fun h9 => c_26 ((nI_leI (a := 40) (b := pl2) (by omega) (by omega)).mpr h9)
                refine lv_aload_n hx hb dX1_putInOrder_29 rfl (lv_at hl 2 rfl) ?_
                refine lv_aload_n hx hb dX1_putInOrder_30 rfl (lv_at hl 1 rfl) ?_
                refine va_getN (D := D) (ci := 3) (v := .ref aRK) (C := RX3) (T := TX3) (N := 11) hx hb hts inX3 hown hK hP 2 rfl rfl 8 (by decide) fl76 (fun _ h9 => h9) rfl dX1_putInOrder_31 ?_
                refine lv_iload hx hb dX1_putInOrder_34 (lv_at hl 5 rfl) ?_
                refine m_iald (k := k) hx hb hK hP 3 0 rfl rfl (by omega) (by decide) dX1_putInOrder_36 ?_
                refine lv_aload_n hx hb dX1_putInOrder_37 rfl (lv_at hl 1 rfl) ?_
                refine va_getN (D := D) (ci := 3) (v := .ref aDY) (C := RX3) (T := TX3) (N := 11) hx hb hts inX3 hown hK hP 2 rfl rfl 4 (by decide) fl79 (fun _ h9 => h9) rfl dX1_putInOrder_38 ?_
                refine lv_iload hx hb dX1_putInOrder_41 (lv_at hl 5 rfl) ?_
                refine m_iald (k := k) hx hb hK hP 4 0 rfl rfl (by omega) (by decide) dX1_putInOrder_43 ?_
                refine m_cVi (As := [.int (fRK k), .int (fDY k)]) (rest := []) (wr := [ob aC 1 [.ref aPD, .ref aOR, .ref aHS, .ref aUN, .ref aFA, .ref aLO, .ref aLA, .int c0, .int (nI np), .int cr], ar cI aOR 40 h2OR, ob aP 3 [.ref aTD, .ref aTC, .ref aTK, .ref aTR, .ref aDY, .ref aCP, .ref aDB, .ref aCR, .ref aRK, .ref aLF, .int (nI np)], ar cI aRK 40 fRK, ar cI aDY 40 fDY]) ⟨hx, hb, hml, hown, hts⟩ (c_X2_rankFor l D cI cZ aD aCU aMV fMV sp bf ln (fRK k) (fDY k) (hrk k (by omega))) (cwV 2 hts gX1_putInOrder_X2_rankFor rfl rfl rfl (by decide +kernel) ⟨Nat.le_of_ble_eq_true rfl, Nat.le_of_ble_eq_true rfl⟩) hN hK hP hD hS hA [5, 6] [0, 1, 2, 3, 4] rfl rfl (by decide) (by decide) (by decide) 0 (ci := 2) rfl rfl rfl rfl hl.1 rfl (Nat.le_of_ble_eq_true rfl) dX1_putInOrder_44 ⟨Nat.le_of_ble_eq_true rfl, Nat.le_of_ble_eq_true rfl⟩ (fun r_44 u_44 H locs hq_44 hP hD hS => ?_)
                have hq_44 : r_44 = dRank fMV bf (fRK k) (fDY k) := hq_44
                have hP : va_P D vwCl [ob aC 1 [.ref aPD, .ref aOR, .ref aHS, .ref aUN, .ref aFA, .ref aLO, .ref aLA, .int c0, .int (nI np), .int cr], ar cI aOR 40 h2OR, ob aP 3 [.ref aTD, .ref aTC, .ref aTK, .ref aTR, .ref aDY, .ref aCP, .ref aDB, .ref aCR, .ref aRK, .ref aLF, .int (nI np)], ar cI aRK 40 fRK, ar cI aDY 40 fDY, ob aD 2 [.ref aCU, .ref aMV, .int sp, .int bf, .int ln], ar cI aMV 4 fMV] H := hP
                have hD : va_D A [ob aC 1 [.ref aPD, .ref aOR, .ref aHS, .ref aUN, .ref aFA, .ref aLO, .ref aLA, .int c0, .int (nI np), .int cr], ar cI aOR 40 h2OR, ob aP 3 [.ref aTD, .ref aTC, .ref aTK, .ref aTR, .ref aDY, .ref aCP, .ref aDB, .ref aCR, .ref aRK, .ref aLF, .int (nI np)], ar cI aRK 40 fRK, ar cI aDY 40 fDY, ob aD 2 [.ref aCU, .ref aMV, .int sp, .int bf, .int ln], ar cI aMV 4 fMV] := hD
                refine lv_iload hx hb dX1_putInOrder_47 (lv_at hl 4 rfl) ?_
                refine lv_icmp_ne (tgt := 63) hx hb dX1_putInOrder_49 (by decide) (fun c_49 => ?_) (fun c_49 => ?_)
                · skip
                  refine lv_iinc (v := (nI (k + 1))) (lv' := [(5, .int (nI (k + 1))), (0, .ref aC), (1, .ref aP), (2, .ref aD), (3, .int (nI pl2)), (4, .int (nI rr))]) hx hb dX1_putInOrder_63 hl (k := 5) rfl (nI_inc k 1 (by decide)) (by decide) rfl (fun ls hl => ?_)
                  refine lv_goto (tgt := 14) hx hb dX1_putInOrder_66 (by decide) ?_
                  exact ih_14 (k + 1) pl2 h2OR (by omega) (by omega) (by first | exact holdsO_hit h3 h4 (hq_44.symm.trans c_49) | exact holdsO_miss h3 (fun q => c_49 (hq_44.trans q))) (by first | exact len_hit h4 (hq_44.symm.trans c_49) | exact len_miss h4 (fun q => c_49 (hq_44.trans q))) _ _ (hP) (hD) hS ls (lv_sub hl [1, 2, 3, 4, 5, 0] rfl)
                · skip
                  refine lv_aload_n hx hb dX1_putInOrder_52 rfl (lv_at hl 0 rfl) ?_
                  refine va_get (D := D) (ci := 1) (v := .ref aOR) (C := RX1) (T := TX1) (N := 10) hx hb hts inX1 hown hK hP 0 rfl rfl 1 (by decide) fl15 (fun _ h9 => h9) rfl dX1_putInOrder_53 ?_
                  refine lv_iload_n hx hb dX1_putInOrder_56 rfl (lv_at hl 3 rfl) ?_
                  refine lv_iload hx hb dX1_putInOrder_57 (lv_at hl 5 rfl) ?_
                  refine m_iast (k := pl2) (x := (nI k)) hx hb hK hP hD hS 1 0 rfl rfl (by omega) (by decide) dX1_putInOrder_59 (fun H locs hP hD hS => ?_)
                  have hP : va_P D vwCl [ob aC 1 [.ref aPD, .ref aOR, .ref aHS, .ref aUN, .ref aFA, .ref aLO, .ref aLA, .int c0, .int (nI np), .int cr], ar cI aOR 40 (upd h2OR pl2 (nI k)), ob aP 3 [.ref aTD, .ref aTC, .ref aTK, .ref aTR, .ref aDY, .ref aCP, .ref aDB, .ref aCR, .ref aRK, .ref aLF, .int (nI np)], ar cI aRK 40 fRK, ar cI aDY 40 fDY, ob aD 2 [.ref aCU, .ref aMV, .int sp, .int bf, .int ln], ar cI aMV 4 fMV] H := hP
                  have hD : va_D A [ob aC 1 [.ref aPD, .ref aOR, .ref aHS, .ref aUN, .ref aFA, .ref aLO, .ref aLA, .int c0, .int (nI np), .int cr], ar cI aOR 40 (upd h2OR pl2 (nI k)), ob aP 3 [.ref aTD, .ref aTC, .ref aTK, .ref aTR, .ref aDY, .ref aCP, .ref aDB, .ref aCR, .ref aRK, .ref aLF, .int (nI np)], ar cI aRK 40 fRK, ar cI aDY 40 fDY, ob aD 2 [.ref aCU, .ref aMV, .int sp, .int bf, .int ln], ar cI aMV 4 fMV] := hD
                  refine lv_iinc (v := (nI (pl2 + 1))) (lv' := [(3, .int (nI (pl2 + 1))), (0, .ref aC), (1, .ref aP), (2, .ref aD), (4, .int (nI rr)), (5, .int (nI k))]) hx hb dX1_putInOrder_60 hl (k := 3) rfl (nI_inc pl2 1 (by decide)) (by decide) rfl (fun ls hl => ?_)
                  refine lv_iinc (v := (nI (k + 1))) (lv' := [(5, .int (nI (k + 1))), (3, .int (nI (pl2 + 1))), (0, .ref aC), (1, .ref aP), (2, .ref aD), (4, .int (nI rr))]) hx hb dX1_putInOrder_63 hl (k := 5) rfl (nI_inc k 1 (by decide)) (by decide) rfl (fun ls hl => ?_)
                  refine lv_goto (tgt := 14) hx hb dX1_putInOrder_66 (by decide) ?_
                  exact ih_14 (k + 1) (pl2 + 1) (upd h2OR pl2 (nI k)) (by omega) (by omega) (by first | exact holdsO_hit h3 h4 (hq_44.symm.trans c_49) | exact holdsO_miss h3 (fun q => c_49 (hq_44.trans q))) (by first | exact len_hit h4 (hq_44.symm.trans c_49) | exact len_miss h4 (fun q => c_49 (hq_44.trans q))) _ _ (hP) (hD) hS ls (lv_sub hl [2, 3, 4, 1, 5, 0] rfl)
        exact L_14 ((np - 0) + 1) 0 pl hOR (Nat.lt_succ_self _) (by omega) (by simpa [rowO] using h1) (by simpa [rowO] using h2) _ _ (hP) (hD) hS ls (lv_sub hl [1, 2, 3, 4, 5, 0] rfl)
  exact L_5 ((4 - 0) + 1) 0 0 fOR (Nat.lt_succ_self _) (by omega) (fun i q h => absurd h (by simp [ordO])) (rfl) _ _ (hP) (hD) hS ls (lv_sub hl [2, 3, 4, 1, 0] rfl)
abbrev r_c_X1_payLess : Room := { frames := 1, cells := 0, slots := 0, locals := 13 }
set_option maxHeartbeats 4000000 in
set_option maxRecDepth 100000 in
theorem c_X1_payLess (l : Launch) (D : va_G) (cI cZ : ClassId) (aC : Nat) (aPD : Nat) (aOR : Nat) (aHS : Nat) (aUN : Nat) (aFA : Nat) (aLO : Nat) (aLA : Nat) (aP : Nat) (aTD : Nat) (aTC : Nat) (aTK : Nat) (aTR : Nat) (aDY : Nat) (aCP : Nat) (aDB : Nat) (aCR : Nat) (aRK : Nat) (aLF : Nat) (fPD : Nat → Int32) (fOR : Nat → Int32) (fHS : Nat → Int32) (fUN : Nat → Int32) (fLO : Nat → Int32) (fLA : Nat → Int32) (fDB : Nat → Int32) (fCR : Nat → Int32) (c0 : Int32) (c1 : Int32) (cr : Int32) (np : Nat) (nm : Nat) (mm : Nat) (bb : Int32) (od : Nat → Nat) (ow : Nat → Int) (T : Int) (T1 : Int) (la : Nat) (HC : PLc np nm mm fDB fCR od ow T T1) (hor : ∀ i, i < np → fOR i = nI (od i)) (hpd : ∀ i, i < np → dbN fDB (od i) = mm → (fPD (od i)).toInt = fillP (dbN fDB) ow od mm T i) (hbb : bb.toInt = T - T1) (hla : fLA mm = plI la) (hl1 : la ≤ np) (hl2 : T ≤ preS (dbN fDB) ow od mm la) (hlo : ∀ c, c < nm → 0 ≤ (fLO c).toInt ∧ (fLO c).toInt ≤ 1000000) : MV l yX1_payLess wsX1_payLess r_c_X1_payLess D cI cZ [.ref aC, .ref aP, .int (nI mm), .int bb] [ob aC 1 [.ref aPD, .ref aOR, .ref aHS, .ref aUN, .ref aFA, .ref aLO, .ref aLA, .int c0, .int c1, .int cr], ar cI aPD 40 fPD, ar cI aOR 40 fOR, ar cI aHS 10 fHS, ar cI aUN 10 fUN, ar cI aLO 10 fLO, ar cI aLA 10 fLA, ob aP 3 [.ref aTD, .ref aTC, .ref aTK, .ref aTR, .ref aDY, .ref aCP, .ref aDB, .ref aCR, .ref aRK, .ref aLF, .int (nI np)], ar cI aDB 40 fDB, ar cI aCR 40 fCR] (fun (u : (Nat → Int32) × (Nat → Int32) × (Nat → Int32) × (Nat → Int32) × (Nat → Int32)) => (∀ i, i < np → dbN fDB (od i) = mm → (u.1 (od i)).toInt = fillP (dbN fDB) ow od mm T1 i) ∧ (∀ k, k < np → ¬ dbN fDB k = mm → u.1 k = fPD k) ∧ (∀ c, c < nm → (u.2.2.2.1 c).toInt = (fLO c).toInt + dropS fDB fCR od ow mm T T1 c np) ∧ (∀ m, m ≠ mm → u.2.2.2.2 m = fLA m) ∧ (∃ l, u.2.2.2.2 mm = plI l ∧ l ≤ np ∧ T1 ≤ preS (dbN fDB) ow od mm l) ∧ u.2.1 = upd fHS mm (fHS mm + bb) ∧ u.2.2.1 = upd fUN mm (fUN mm + bb)) (fun (u : (Nat → Int32) × (Nat → Int32) × (Nat → Int32) × (Nat → Int32) × (Nat → Int32)) => [ob aC 1 [.ref aPD, .ref aOR, .ref aHS, .ref aUN, .ref aFA, .ref aLO, .ref aLA, .int c0, .int c1, .int cr], ar cI aPD 40 u.1, ar cI aOR 40 fOR, ar cI aHS 10 u.2.1, ar cI aUN 10 u.2.2.1, ar cI aLO 10 u.2.2.2.1, ar cI aLA 10 u.2.2.2.2, ob aP 3 [.ref aTD, .ref aTC, .ref aTK, .ref aTR, .ref aDY, .ref aCP, .ref aDB, .ref aCR, .ref aRK, .ref aLF, .int (nI np)], ar cI aDB 40 fDB, ar cI aCR 40 fCR]) 0 0 := by
  refine MV.of (cc := cX1_payLess) (maxL := 8) (by decide) rfl (Nat.le_of_ble_eq_true rfl) ?_
  intro p e s m below meth c A Q hx hb hml hown hts hN hK hA ret hP hD hS ls hl hmn
  have hown : s.vm.findClass RX1 = some m.cls := hown
  have inX1 : ∀ w ∈ wsX10, w ∈ wsX1_payLess := by decide +kernel
  have inX3 : ∀ w ∈ wsX30, w ∈ wsX1_payLess := by decide +kernel
  have fl9 := hts (.fieldLink RX1 9 "AdvanceBook$Clearing" "paid" "[I") (by decide +kernel)
  have fl15 := hts (.fieldLink RX1 15 "AdvanceBook$Clearing" "order" "[I") (by decide +kernel)
  have fl18 := hts (.fieldLink RX1 18 "AdvanceBook$Clearing" "has" "[I") (by decide +kernel)
  have fl21 := hts (.fieldLink RX1 21 "AdvanceBook$Clearing" "unpaid" "[I") (by decide +kernel)
  have fl27 := hts (.fieldLink RX1 27 "AdvanceBook$Clearing" "lost" "[I") (by decide +kernel)
  have fl30 := hts (.fieldLink RX1 30 "AdvanceBook$Clearing" "lastInOrder" "[I") (by decide +kernel)
  have fl88 : (Cond.fieldLinkNest RX1 88 "AdvanceBook$Papers" "debtors" "[I" "AdvanceBook").before (([.ref aC, .ref aP, .int (nI mm), .int bb] : List Value).toArray) s = true := nest_useF hN (by decide +kernel)
  have fl91 : (Cond.fieldLinkNest RX1 91 "AdvanceBook$Papers" "creditors" "[I" "AdvanceBook").before (([.ref aC, .ref aP, .int (nI mm), .int bb] : List Value).toArray) s = true := nest_useF hN (by decide +kernel)
  have hP : va_P D vwCl [ob aC 1 [.ref aPD, .ref aOR, .ref aHS, .ref aUN, .ref aFA, .ref aLO, .ref aLA, .int c0, .int c1, .int cr], ar cI aPD 40 fPD, ar cI aOR 40 fOR, ar cI aHS 10 fHS, ar cI aUN 10 fUN, ar cI aLO 10 fLO, ar cI aLA 10 fLA, ob aP 3 [.ref aTD, .ref aTC, .ref aTK, .ref aTR, .ref aDY, .ref aCP, .ref aDB, .ref aCR, .ref aRK, .ref aLF, .int (nI np)], ar cI aDB 40 fDB, ar cI aCR 40 fCR] s.heap := hP
  have hD : va_D A [ob aC 1 [.ref aPD, .ref aOR, .ref aHS, .ref aUN, .ref aFA, .ref aLO, .ref aLA, .int c0, .int c1, .int cr], ar cI aPD 40 fPD, ar cI aOR 40 fOR, ar cI aHS 10 fHS, ar cI aUN 10 fUN, ar cI aLO 10 fLO, ar cI aLA 10 fLA, ob aP 3 [.ref aTD, .ref aTC, .ref aTK, .ref aTR, .ref aDY, .ref aCP, .ref aDB, .ref aCR, .ref aRK, .ref aLF, .int (nI np)], ar cI aDB 40 fDB, ar cI aCR 40 fCR] := hD
  have hl : lv_has ls 8 [(0, .ref aC), (1, .ref aP), (2, .int (nI mm)), (3, .int bb)] := hl
  have hnp := HC.1
  have hnm := HC.2.1
  have hmm := HC.2.2.1
  have hdb := HC.2.2.2.1
  have hcr := HC.2.2.2.2.1
  have hodn := HC.2.2.2.2.2.1
  refine lv_iload_n hx hb dX1_payLess_0 rfl (lv_at hl 3 rfl) ?_
  refine lv_istore (lv' := [(4, .int bb), (0, .ref aC), (1, .ref aP), (2, .int (nI mm)), (3, .int bb)]) hx hb dX1_payLess_1 hl (by decide) rfl (fun ls hl => ?_)
  refine lv_aload_n hx hb dX1_payLess_3 rfl (lv_at hl 1 rfl) ?_
  refine va_get (D := D) (ci := 1) (v := .ref aLA) (C := RX1) (T := TX1) (N := 10) hx hb hts inX1 hown hK hP 0 rfl rfl 6 (by decide) fl30 (fun _ h9 => h9) rfl dX1_payLess_4 ?_
  refine lv_iload_n hx hb dX1_payLess_7 rfl (lv_at hl 3 rfl) ?_
  refine m_iald (k := mm) hx hb hK hP 6 0 rfl rfl (by omega) (by decide) dX1_payLess_8 ?_
  rw [hla]
  refine lv_istore (lv' := [(5, .int (plI la)), (4, .int bb), (0, .ref aC), (1, .ref aP), (2, .int (nI mm)), (3, .int bb)]) hx hb dX1_payLess_9 hl (by decide) rfl (fun ls hl => ?_)
  have L_11 : ∀ (n_11 : Nat) (j : Nat) (op : Int32) (PD : Nat → Int32) (LO : Nat → Int32) (LA : Nat → Int32) (l2 : Nat), (j < n_11) → (PLinv np nm mm fDB fCR od ow T T1 fPD fLO fLA j op PD LO LA l2) → ∀ (H : Heap) (locs : List Loc), va_P D vwCl [ob aC 1 [.ref aPD, .ref aOR, .ref aHS, .ref aUN, .ref aFA, .ref aLO, .ref aLA, .int c0, .int c1, .int cr], ar cI aPD 40 PD, ar cI aOR 40 fOR, ar cI aHS 10 fHS, ar cI aUN 10 fUN, ar cI aLO 10 LO, ar cI aLA 10 LA, ob aP 3 [.ref aTD, .ref aTC, .ref aTK, .ref aTR, .ref aDY, .ref aCP, .ref aDB, .ref aCR, .ref aRK, .ref aLF, .int (nI np)], ar cI aDB 40 fDB, ar cI aCR 40 fCR] H → va_D A [ob aC 1 [.ref aPD, .ref aOR, .ref aHS, .ref aUN, .ref aFA, .ref aLO, .ref aLA, .int c0, .int c1, .int cr], ar cI aPD 40 PD, ar cI aOR 40 fOR, ar cI aHS 10 fHS, ar cI aUN 10 fUN, ar cI aLO 10 LO, ar cI aLA 10 LA, ob aP 3 [.ref aTD, .ref aTC, .ref aTK, .ref aTR, .ref aDY, .ref aCP, .ref aDB, .ref aCR, .ref aRK, .ref aLF, .int (nI np)], ar cI aDB 40 fDB, ar cI aCR 40 fCR] → va_S A s.heap H locs → ∀ ls : Array Slot, lv_has ls 8 [(0, .ref aC), (1, .ref aP), (2, .int (nI mm)), (3, .int bb), (4, .int op), (5, .int (plI j))] → W p l e r_c_X1_payLess s m (([.ref aC, .ref aP, .int (nI mm), .int bb] : List Value).toArray) below meth c H locs 0 0 Q (F0 m 11 ls []) := by
    intro n_11
    induction n_11 with
    | zero => intro j op PD LO LA l2 hfu; exact absurd hfu (Nat.not_lt_zero _)
    | succ n_11 ih_11 =>
      intro j op PD LO LA l2 hfu_11 I H locs hP hD hS ls hl
      refine lv_iload hx hb dX1_payLess_11 (lv_at hl 5 rfl) ?_
      refine lv_if_lt (tgt := 105) hx hb dX1_payLess_13 (by decide) (fun c_13 => ?_) (fun c_13 => ?_)
      · skip
        refine lv_aload_n hx hb dX1_payLess_105 rfl (lv_at hl 0 rfl) ?_
        refine va_get (D := D) (ci := 1) (v := .ref aHS) (C := RX1) (T := TX1) (N := 10) hx hb hts inX1 hown hK hP 0 rfl rfl 2 (by decide) fl18 (fun _ h9 => h9) rfl dX1_payLess_106 ?_
        refine lv_iload_n hx hb dX1_payLess_109 rfl (lv_at hl 2 rfl) ?_
        refine lv_dup2_11 hx hb dX1_payLess_110 rfl rfl ?_
        refine m_iald (k := mm) hx hb hK hP 3 0 rfl rfl (by omega) (by decide) dX1_payLess_111 ?_
        refine lv_iload_n hx hb dX1_payLess_112 rfl (lv_at hl 3 rfl) ?_
        refine lv_iadd hx hb dX1_payLess_113 ?_
        refine m_iast (k := mm) (x := ((fHS mm) + bb)) hx hb hK hP hD hS 3 0 rfl rfl (by omega) (by decide) dX1_payLess_114 (fun H locs hP hD hS => ?_)
        have hP : va_P D vwCl [ob aC 1 [.ref aPD, .ref aOR, .ref aHS, .ref aUN, .ref aFA, .ref aLO, .ref aLA, .int c0, .int c1, .int cr], ar cI aPD 40 PD, ar cI aOR 40 fOR, ar cI aHS 10 (upd fHS mm ((fHS mm) + bb)), ar cI aUN 10 fUN, ar cI aLO 10 LO, ar cI aLA 10 LA, ob aP 3 [.ref aTD, .ref aTC, .ref aTK, .ref aTR, .ref aDY, .ref aCP, .ref aDB, .ref aCR, .ref aRK, .ref aLF, .int (nI np)], ar cI aDB 40 fDB, ar cI aCR 40 fCR] H := hP
        have hD : va_D A [ob aC 1 [.ref aPD, .ref aOR, .ref aHS, .ref aUN, .ref aFA, .ref aLO, .ref aLA, .int c0, .int c1, .int cr], ar cI aPD 40 PD, ar cI aOR 40 fOR, ar cI aHS 10 (upd fHS mm ((fHS mm) + bb)), ar cI aUN 10 fUN, ar cI aLO 10 LO, ar cI aLA 10 LA, ob aP 3 [.ref aTD, .ref aTC, .ref aTK, .ref aTR, .ref aDY, .ref aCP, .ref aDB, .ref aCR, .ref aRK, .ref aLF, .int (nI np)], ar cI aDB 40 fDB, ar cI aCR 40 fCR] := hD
        refine lv_aload_n hx hb dX1_payLess_115 rfl (lv_at hl 0 rfl) ?_
        refine va_get (D := D) (ci := 1) (v := .ref aUN) (C := RX1) (T := TX1) (N := 10) hx hb hts inX1 hown hK hP 0 rfl rfl 3 (by decide) fl21 (fun _ h9 => h9) rfl dX1_payLess_116 ?_
        refine lv_iload_n hx hb dX1_payLess_119 rfl (lv_at hl 2 rfl) ?_
        refine lv_dup2_11 hx hb dX1_payLess_120 rfl rfl ?_
        refine m_iald (k := mm) hx hb hK hP 4 0 rfl rfl (by omega) (by decide) dX1_payLess_121 ?_
        refine lv_iload_n hx hb dX1_payLess_122 rfl (lv_at hl 3 rfl) ?_
        refine lv_iadd hx hb dX1_payLess_123 ?_
        refine m_iast (k := mm) (x := ((fUN mm) + bb)) hx hb hK hP hD hS 4 0 rfl rfl (by omega) (by decide) dX1_payLess_124 (fun H locs hP hD hS => ?_)
        have hP : va_P D vwCl [ob aC 1 [.ref aPD, .ref aOR, .ref aHS, .ref aUN, .ref aFA, .ref aLO, .ref aLA, .int c0, .int c1, .int cr], ar cI aPD 40 PD, ar cI aOR 40 fOR, ar cI aHS 10 (upd fHS mm ((fHS mm) + bb)), ar cI aUN 10 (upd fUN mm ((fUN mm) + bb)), ar cI aLO 10 LO, ar cI aLA 10 LA, ob aP 3 [.ref aTD, .ref aTC, .ref aTK, .ref aTR, .ref aDY, .ref aCP, .ref aDB, .ref aCR, .ref aRK, .ref aLF, .int (nI np)], ar cI aDB 40 fDB, ar cI aCR 40 fCR] H := hP
        have hD : va_D A [ob aC 1 [.ref aPD, .ref aOR, .ref aHS, .ref aUN, .ref aFA, .ref aLO, .ref aLA, .int c0, .int c1, .int cr], ar cI aPD 40 PD, ar cI aOR 40 fOR, ar cI aHS 10 (upd fHS mm ((fHS mm) + bb)), ar cI aUN 10 (upd fUN mm ((fUN mm) + bb)), ar cI aLO 10 LO, ar cI aLA 10 LA, ob aP 3 [.ref aTD, .ref aTC, .ref aTK, .ref aTR, .ref aDY, .ref aCP, .ref aDB, .ref aCR, .ref aRK, .ref aLF, .int (nI np)], ar cI aDB 40 fDB, ar cI aCR 40 fCR] := hD
        exact ret (PD, (upd fHS mm ((fHS mm) + bb)), (upd fUN mm ((fUN mm) + bb)), LO, LA) _ _ _ _ dX1_payLess_125 (by obtain ⟨p1, p2, p3, p4, p5⟩ := PL_exit HC I (by first | exact Or.inl (plI_neg (by have := I.1; omega) c_13) | exact Or.inr (by rw [i32_lt]; rw [i32_le] at c_18; omega)); exact ⟨p1, p2, p3, p4, p5, rfl, rfl⟩) (hP) (hD) hS
      · skip
        obtain ⟨j', rfl⟩ := plI_pos (by have := I.1; omega) c_13
        have hj' : j' < np := I.1
        have hoj := hodn j' hj'
        refine lv_iload hx hb dX1_payLess_16 (lv_at hl 4 rfl) ?_
        refine lv_if_le (tgt := 105) hx hb dX1_payLess_18 (by decide) (fun c_18 => ?_) (fun c_18 => ?_)
        · skip
          refine lv_aload_n hx hb dX1_payLess_105 rfl (lv_at hl 0 rfl) ?_
          refine va_get (D := D) (ci := 1) (v := .ref aHS) (C := RX1) (T := TX1) (N := 10) hx hb hts inX1 hown hK hP 0 rfl rfl 2 (by decide) fl18 (fun _ h9 => h9) rfl dX1_payLess_106 ?_
          refine lv_iload_n hx hb dX1_payLess_109 rfl (lv_at hl 2 rfl) ?_
          refine lv_dup2_11 hx hb dX1_payLess_110 rfl rfl ?_
          refine m_iald (k := mm) hx hb hK hP 3 0 rfl rfl (by omega) (by decide) dX1_payLess_111 ?_
          refine lv_iload_n hx hb dX1_payLess_112 rfl (lv_at hl 3 rfl) ?_
          refine lv_iadd hx hb dX1_payLess_113 ?_
          refine m_iast (k := mm) (x := ((fHS mm) + bb)) hx hb hK hP hD hS 3 0 rfl rfl (by omega) (by decide) dX1_payLess_114 (fun H locs hP hD hS => ?_)
          have hP : va_P D vwCl [ob aC 1 [.ref aPD, .ref aOR, .ref aHS, .ref aUN, .ref aFA, .ref aLO, .ref aLA, .int c0, .int c1, .int cr], ar cI aPD 40 PD, ar cI aOR 40 fOR, ar cI aHS 10 (upd fHS mm ((fHS mm) + bb)), ar cI aUN 10 fUN, ar cI aLO 10 LO, ar cI aLA 10 LA, ob aP 3 [.ref aTD, .ref aTC, .ref aTK, .ref aTR, .ref aDY, .ref aCP, .ref aDB, .ref aCR, .ref aRK, .ref aLF, .int (nI np)], ar cI aDB 40 fDB, ar cI aCR 40 fCR] H := hP
          have hD : va_D A [ob aC 1 [.ref aPD, .ref aOR, .ref aHS, .ref aUN, .ref aFA, .ref aLO, .ref aLA, .int c0, .int c1, .int cr], ar cI aPD 40 PD, ar cI aOR 40 fOR, ar cI aHS 10 (upd fHS mm ((fHS mm) + bb)), ar cI aUN 10 fUN, ar cI aLO 10 LO, ar cI aLA 10 LA, ob aP 3 [.ref aTD, .ref aTC, .ref aTK, .ref aTR, .ref aDY, .ref aCP, .ref aDB, .ref aCR, .ref aRK, .ref aLF, .int (nI np)], ar cI aDB 40 fDB, ar cI aCR 40 fCR] := hD
          refine lv_aload_n hx hb dX1_payLess_115 rfl (lv_at hl 0 rfl) ?_
          refine va_get (D := D) (ci := 1) (v := .ref aUN) (C := RX1) (T := TX1) (N := 10) hx hb hts inX1 hown hK hP 0 rfl rfl 3 (by decide) fl21 (fun _ h9 => h9) rfl dX1_payLess_116 ?_
          refine lv_iload_n hx hb dX1_payLess_119 rfl (lv_at hl 2 rfl) ?_
          refine lv_dup2_11 hx hb dX1_payLess_120 rfl rfl ?_
          refine m_iald (k := mm) hx hb hK hP 4 0 rfl rfl (by omega) (by decide) dX1_payLess_121 ?_
          refine lv_iload_n hx hb dX1_payLess_122 rfl (lv_at hl 3 rfl) ?_
          refine lv_iadd hx hb dX1_payLess_123 ?_
          refine m_iast (k := mm) (x := ((fUN mm) + bb)) hx hb hK hP hD hS 4 0 rfl rfl (by omega) (by decide) dX1_payLess_124 (fun H locs hP hD hS => ?_)
          have hP : va_P D vwCl [ob aC 1 [.ref aPD, .ref aOR, .ref aHS, .ref aUN, .ref aFA, .ref aLO, .ref aLA, .int c0, .int c1, .int cr], ar cI aPD 40 PD, ar cI aOR 40 fOR, ar cI aHS 10 (upd fHS mm ((fHS mm) + bb)), ar cI aUN 10 (upd fUN mm ((fUN mm) + bb)), ar cI aLO 10 LO, ar cI aLA 10 LA, ob aP 3 [.ref aTD, .ref aTC, .ref aTK, .ref aTR, .ref aDY, .ref aCP, .ref aDB, .ref aCR, .ref aRK, .ref aLF, .int (nI np)], ar cI aDB 40 fDB, ar cI aCR 40 fCR] H := hP
          have hD : va_D A [ob aC 1 [.ref aPD, .ref aOR, .ref aHS, .ref aUN, .ref aFA, .ref aLO, .ref aLA, .int c0, .int c1, .int cr], ar cI aPD 40 PD, ar cI aOR 40 fOR, ar cI aHS 10 (upd fHS mm ((fHS mm) + bb)), ar cI aUN 10 (upd fUN mm ((fUN mm) + bb)), ar cI aLO 10 LO, ar cI aLA 10 LA, ob aP 3 [.ref aTD, .ref aTC, .ref aTK, .ref aTR, .ref aDY, .ref aCP, .ref aDB, .ref aCR, .ref aRK, .ref aLF, .int (nI np)], ar cI aDB 40 fDB, ar cI aCR 40 fCR] := hD
          exact ret (PD, (upd fHS mm ((fHS mm) + bb)), (upd fUN mm ((fUN mm) + bb)), LO, LA) _ _ _ _ dX1_payLess_125 (by obtain ⟨p1, p2, p3, p4, p5⟩ := PL_exit HC I (by first | exact Or.inl (plI_neg (by have := I.1; omega) c_13) | exact Or.inr (by rw [i32_lt]; rw [i32_le] at c_18; omega)); exact ⟨p1, p2, p3, p4, p5, rfl, rfl⟩) (hP) (hD) hS
        · skip
          refine lv_aload_n hx hb dX1_payLess_21 rfl (lv_at hl 0 rfl) ?_
          refine va_get (D := D) (ci := 1) (v := .ref aOR) (C := RX1) (T := TX1) (N := 10) hx hb hts inX1 hown hK hP 0 rfl rfl 1 (by decide) fl15 (fun _ h9 => h9) rfl dX1_payLess_22 ?_
          refine lv_iload hx hb dX1_payLess_25 (lv_at hl 5 rfl) ?_
          refine m_iald (k := j') hx hb hK hP 2 0 rfl rfl (by omega) (by decide) dX1_payLess_27 ?_
          rw [hor j' hj']
          refine lv_istore (lv' := [(6, .int (nI (od j'))), (0, .ref aC), (1, .ref aP), (2, .int (nI mm)), (3, .int bb), (4, .int op), (5, .int (nI j'))]) hx hb dX1_payLess_28 hl (by decide) rfl (fun ls hl => ?_)
          refine lv_aload_n hx hb dX1_payLess_30 rfl (lv_at hl 2 rfl) ?_
          refine va_getN (D := D) (ci := 3) (v := .ref aDB) (C := RX3) (T := TX3) (N := 11) hx hb hts inX3 hown hK hP 7 rfl rfl 6 (by decide) fl88 (fun _ h9 => h9) rfl dX1_payLess_31 ?_
          refine lv_iload hx hb dX1_payLess_34 (lv_at hl 0 rfl) ?_
          refine m_iald (k := (od j')) hx hb hK hP 8 0 rfl rfl (by omega) (by decide) dX1_payLess_36 ?_
          refine lv_iload_n hx hb dX1_payLess_37 rfl (lv_at hl 3 rfl) ?_
          refine lv_icmp_ne (tgt := 91) hx hb dX1_payLess_38 (by decide) (fun c_38 => ?_) (fun c_38 => ?_)
          · skip
            refine lv_aload_n hx hb dX1_payLess_91 rfl (lv_at hl 1 rfl) ?_
            refine va_get (D := D) (ci := 1) (v := .ref aLA) (C := RX1) (T := TX1) (N := 10) hx hb hts inX1 hown hK hP 0 rfl rfl 6 (by decide) fl30 (fun _ h9 => h9) rfl dX1_payLess_92 ?_
            refine lv_iload_n hx hb dX1_payLess_95 rfl (lv_at hl 3 rfl) ?_
            refine lv_iload hx hb dX1_payLess_96 (lv_at hl 6 rfl) ?_
            refine m_iast (k := mm) (x := (nI j')) hx hb hK hP hD hS 6 0 rfl rfl (by omega) (by decide) dX1_payLess_98 (fun H locs hP hD hS => ?_)
            have hP : va_P D vwCl [ob aC 1 [.ref aPD, .ref aOR, .ref aHS, .ref aUN, .ref aFA, .ref aLO, .ref aLA, .int c0, .int c1, .int cr], ar cI aPD 40 PD, ar cI aOR 40 fOR, ar cI aHS 10 fHS, ar cI aUN 10 fUN, ar cI aLO 10 LO, ar cI aLA 10 (upd LA mm (nI j')), ob aP 3 [.ref aTD, .ref aTC, .ref aTK, .ref aTR, .ref aDY, .ref aCP, .ref aDB, .ref aCR, .ref aRK, .ref aLF, .int (nI np)], ar cI aDB 40 fDB, ar cI aCR 40 fCR] H := hP
            have hD : va_D A [ob aC 1 [.ref aPD, .ref aOR, .ref aHS, .ref aUN, .ref aFA, .ref aLO, .ref aLA, .int c0, .int c1, .int cr], ar cI aPD 40 PD, ar cI aOR 40 fOR, ar cI aHS 10 fHS, ar cI aUN 10 fUN, ar cI aLO 10 LO, ar cI aLA 10 (upd LA mm (nI j')), ob aP 3 [.ref aTD, .ref aTC, .ref aTK, .ref aTR, .ref aDY, .ref aCP, .ref aDB, .ref aCR, .ref aRK, .ref aLF, .int (nI np)], ar cI aDB 40 fDB, ar cI aCR 40 fCR] := hD
            refine lv_iinc (v := (plI j')) (lv' := [(5, .int (plI j')), (6, .int (nI (od j'))), (0, .ref aC), (1, .ref aP), (2, .int (nI mm)), (3, .int bb), (4, .int op)]) hx hb dX1_payLess_99 hl (k := 6) rfl (plI_dec j') (by decide) rfl (fun ls hl => ?_)
            refine lv_goto (tgt := 11) hx hb dX1_payLess_102 (by decide) ?_
            have c18 : 0 < op := (by rw [i32_lt]; rw [i32_le] at c_18; omega)
            exact ih_11 j' op PD LO (upd LA mm (nI j')) (j' + 1) (by omega) (by first | exact PL_other HC I (fun q => c_38 ((ix_is (hdb _ hoj) (by omega) (by omega)).mpr q)) c18 | exact PL_his HC hlo I ((ix_is (hdb _ hoj) (by omega) (by omega)).mp c_38) c18 ey) _ _ (hP) (hD) hS ls (lv_sub hl [2, 3, 4, 5, 6, 0] rfl)
          · skip
            refine lv_iload hx hb dX1_payLess_41 (lv_at hl 5 rfl) ?_
            refine lv_aload_n hx hb dX1_payLess_43 rfl (lv_at hl 1 rfl) ?_
            refine va_get (D := D) (ci := 1) (v := .ref aPD) (C := RX1) (T := TX1) (N := 10) hx hb hts inX1 hown hK hP 0 rfl rfl 0 (by decide) fl9 (fun _ h9 => h9) rfl dX1_payLess_44 ?_
            refine lv_iload hx hb dX1_payLess_47 (lv_at hl 0 rfl) ?_
            refine m_iald (k := (od j')) hx hb hK hP 1 0 rfl rfl (by omega) (by decide) dX1_payLess_49 ?_
            refine va_mmin hx hb (by rw [hml]; exact hl.1.symm) hown (hts (.methodLink RX1 105 Lib.Math.min.name) (by decide +kernel)) (hts (.static Lib.Math.min.name) (by decide +kernel)) (hts (.initialized "java/lang/Math") (by decide +kernel)) (hts (.code Lib.Math.min.name Lib.Math.min.code 2 (some .int)) (by decide +kernel)) (Nat.le_of_ble_eq_true rfl) (Nat.le_of_ble_eq_true rfl) (Nat.le_of_ble_eq_true rfl) (Nat.le_of_ble_eq_true rfl) dX1_payLess_50 ?_
            refine lv_topi (fun y ey => ?_)
            refine lv_istore (lv' := [(7, .int y), (6, .int (nI (od j'))), (0, .ref aC), (1, .ref aP), (2, .int (nI mm)), (3, .int bb), (4, .int op), (5, .int (nI j'))]) hx hb dX1_payLess_53 hl (by decide) rfl (fun ls hl => ?_)
            refine lv_aload_n hx hb dX1_payLess_55 rfl (lv_at hl 2 rfl) ?_
            refine va_get (D := D) (ci := 1) (v := .ref aPD) (C := RX1) (T := TX1) (N := 10) hx hb hts inX1 hown hK hP 0 rfl rfl 0 (by decide) fl9 (fun _ h9 => h9) rfl dX1_payLess_56 ?_
            refine lv_iload hx hb dX1_payLess_59 (lv_at hl 1 rfl) ?_
            refine lv_dup2_11 hx hb dX1_payLess_61 rfl rfl ?_
            refine m_iald (k := (od j')) hx hb hK hP 1 0 rfl rfl (by omega) (by decide) dX1_payLess_62 ?_
            refine lv_iload hx hb dX1_payLess_63 (lv_at hl 0 rfl) ?_
            refine lv_isub hx hb dX1_payLess_65 ?_
            refine m_iast (k := (od j')) (x := ((PD (od j')) - y)) hx hb hK hP hD hS 1 0 rfl rfl (by omega) (by decide) dX1_payLess_66 (fun H locs hP hD hS => ?_)
            have hP : va_P D vwCl [ob aC 1 [.ref aPD, .ref aOR, .ref aHS, .ref aUN, .ref aFA, .ref aLO, .ref aLA, .int c0, .int c1, .int cr], ar cI aPD 40 (upd PD (od j') ((PD (od j')) - y)), ar cI aOR 40 fOR, ar cI aHS 10 fHS, ar cI aUN 10 fUN, ar cI aLO 10 LO, ar cI aLA 10 LA, ob aP 3 [.ref aTD, .ref aTC, .ref aTK, .ref aTR, .ref aDY, .ref aCP, .ref aDB, .ref aCR, .ref aRK, .ref aLF, .int (nI np)], ar cI aDB 40 fDB, ar cI aCR 40 fCR] H := hP
            have hD : va_D A [ob aC 1 [.ref aPD, .ref aOR, .ref aHS, .ref aUN, .ref aFA, .ref aLO, .ref aLA, .int c0, .int c1, .int cr], ar cI aPD 40 (upd PD (od j') ((PD (od j')) - y)), ar cI aOR 40 fOR, ar cI aHS 10 fHS, ar cI aUN 10 fUN, ar cI aLO 10 LO, ar cI aLA 10 LA, ob aP 3 [.ref aTD, .ref aTC, .ref aTK, .ref aTR, .ref aDY, .ref aCP, .ref aDB, .ref aCR, .ref aRK, .ref aLF, .int (nI np)], ar cI aDB 40 fDB, ar cI aCR 40 fCR] := hD
            refine lv_aload_n hx hb dX1_payLess_67 rfl (lv_at hl 2 rfl) ?_
            refine va_get (D := D) (ci := 1) (v := .ref aLO) (C := RX1) (T := TX1) (N := 10) hx hb hts inX1 hown hK hP 0 rfl rfl 5 (by decide) fl27 (fun _ h9 => h9) rfl dX1_payLess_68 ?_
            refine lv_aload_n hx hb dX1_payLess_71 rfl (lv_at hl 3 rfl) ?_
            refine va_getN (D := D) (ci := 3) (v := .ref aCR) (C := RX3) (T := TX3) (N := 11) hx hb hts inX3 hown hK hP 7 rfl rfl 7 (by decide) fl91 (fun _ h9 => h9) rfl dX1_payLess_72 ?_
            refine lv_iload hx hb dX1_payLess_75 (lv_at hl 1 rfl) ?_
            refine m_iald (k := (od j')) hx hb hK hP 9 0 rfl rfl (by omega) (by decide) dX1_payLess_77 ?_
            refine lv_dup2_11 hx hb dX1_payLess_78 rfl rfl ?_
            refine va_iald hx hb hK hP 5 0 rfl rfl (vp_wide (hcr _ hoj) hnm) dX1_payLess_79 ?_
            refine lv_iload hx hb dX1_payLess_80 (lv_at hl 0 rfl) ?_
            refine lv_iadd hx hb dX1_payLess_82 ?_
            refine va_iast (x := ((LO (ix (fCR (od j')))) + y)) hx hb hK hP hD hS 5 0 rfl rfl (vp_wide (hcr _ hoj) hnm) dX1_payLess_83 (fun H locs hP hD hS => ?_)
            have hP : va_P D vwCl [ob aC 1 [.ref aPD, .ref aOR, .ref aHS, .ref aUN, .ref aFA, .ref aLO, .ref aLA, .int c0, .int c1, .int cr], ar cI aPD 40 (upd PD (od j') ((PD (od j')) - y)), ar cI aOR 40 fOR, ar cI aHS 10 fHS, ar cI aUN 10 fUN, ar cI aLO 10 (upd LO (ix (fCR (od j'))) ((LO (ix (fCR (od j')))) + y)), ar cI aLA 10 LA, ob aP 3 [.ref aTD, .ref aTC, .ref aTK, .ref aTR, .ref aDY, .ref aCP, .ref aDB, .ref aCR, .ref aRK, .ref aLF, .int (nI np)], ar cI aDB 40 fDB, ar cI aCR 40 fCR] H := hP
            have hD : va_D A [ob aC 1 [.ref aPD, .ref aOR, .ref aHS, .ref aUN, .ref aFA, .ref aLO, .ref aLA, .int c0, .int c1, .int cr], ar cI aPD 40 (upd PD (od j') ((PD (od j')) - y)), ar cI aOR 40 fOR, ar cI aHS 10 fHS, ar cI aUN 10 fUN, ar cI aLO 10 (upd LO (ix (fCR (od j'))) ((LO (ix (fCR (od j')))) + y)), ar cI aLA 10 LA, ob aP 3 [.ref aTD, .ref aTC, .ref aTK, .ref aTR, .ref aDY, .ref aCP, .ref aDB, .ref aCR, .ref aRK, .ref aLF, .int (nI np)], ar cI aDB 40 fDB, ar cI aCR 40 fCR] := hD
            refine lv_iload hx hb dX1_payLess_84 (lv_at hl 6 rfl) ?_
            refine lv_iload hx hb dX1_payLess_86 (lv_at hl 0 rfl) ?_
            refine lv_isub hx hb dX1_payLess_88 ?_
            refine lv_istore (lv' := [(4, .int (op - y)), (7, .int y), (6, .int (nI (od j'))), (0, .ref aC), (1, .ref aP), (2, .int (nI mm)), (3, .int bb), (5, .int (nI j'))]) hx hb dX1_payLess_89 hl (by decide) rfl (fun ls hl => ?_)
            refine lv_aload_n hx hb dX1_payLess_91 rfl (lv_at hl 3 rfl) ?_
            refine va_get (D := D) (ci := 1) (v := .ref aLA) (C := RX1) (T := TX1) (N := 10) hx hb hts inX1 hown hK hP 0 rfl rfl 6 (by decide) fl30 (fun _ h9 => h9) rfl dX1_payLess_92 ?_
            refine lv_iload_n hx hb dX1_payLess_95 rfl (lv_at hl 5 rfl) ?_
            refine lv_iload hx hb dX1_payLess_96 (lv_at hl 7 rfl) ?_
            refine m_iast (k := mm) (x := (nI j')) hx hb hK hP hD hS 6 0 rfl rfl (by omega) (by decide) dX1_payLess_98 (fun H locs hP hD hS => ?_)
            have hP : va_P D vwCl [ob aC 1 [.ref aPD, .ref aOR, .ref aHS, .ref aUN, .ref aFA, .ref aLO, .ref aLA, .int c0, .int c1, .int cr], ar cI aPD 40 (upd PD (od j') ((PD (od j')) - y)), ar cI aOR 40 fOR, ar cI aHS 10 fHS, ar cI aUN 10 fUN, ar cI aLO 10 (upd LO (ix (fCR (od j'))) ((LO (ix (fCR (od j')))) + y)), ar cI aLA 10 (upd LA mm (nI j')), ob aP 3 [.ref aTD, .ref aTC, .ref aTK, .ref aTR, .ref aDY, .ref aCP, .ref aDB, .ref aCR, .ref aRK, .ref aLF, .int (nI np)], ar cI aDB 40 fDB, ar cI aCR 40 fCR] H := hP
            have hD : va_D A [ob aC 1 [.ref aPD, .ref aOR, .ref aHS, .ref aUN, .ref aFA, .ref aLO, .ref aLA, .int c0, .int c1, .int cr], ar cI aPD 40 (upd PD (od j') ((PD (od j')) - y)), ar cI aOR 40 fOR, ar cI aHS 10 fHS, ar cI aUN 10 fUN, ar cI aLO 10 (upd LO (ix (fCR (od j'))) ((LO (ix (fCR (od j')))) + y)), ar cI aLA 10 (upd LA mm (nI j')), ob aP 3 [.ref aTD, .ref aTC, .ref aTK, .ref aTR, .ref aDY, .ref aCP, .ref aDB, .ref aCR, .ref aRK, .ref aLF, .int (nI np)], ar cI aDB 40 fDB, ar cI aCR 40 fCR] := hD
            refine lv_iinc (v := (plI j')) (lv' := [(5, .int (plI j')), (4, .int (op - y)), (7, .int y), (6, .int (nI (od j'))), (0, .ref aC), (1, .ref aP), (2, .int (nI mm)), (3, .int bb)]) hx hb dX1_payLess_99 hl (k := 7) rfl (plI_dec j') (by decide) rfl (fun ls hl => ?_)
            refine lv_goto (tgt := 11) hx hb dX1_payLess_102 (by decide) ?_
            have c18 : 0 < op := (by rw [i32_lt]; rw [i32_le] at c_18; omega)
            exact ih_11 j' (op - y) (upd PD (od j') ((PD (od j')) - y)) (upd LO (ix (fCR (od j'))) ((LO (ix (fCR (od j')))) + y)) (upd LA mm (nI j')) (j' + 1) (by omega) (by first | exact PL_other HC I (fun q => c_38 ((ix_is (hdb _ hoj) (by omega) (by omega)).mpr q)) c18 | exact PL_his HC hlo I ((ix_is (hdb _ hoj) (by omega) (by omega)).mp c_38) c18 ey) _ _ (hP) (hD) hS ls (lv_sub hl [4, 5, 6, 7, 1, 0] rfl)
  exact L_11 (la + 1) la bb fPD fLO fLA la (Nat.lt_succ_self _) (PL_entry HC hpd hbb hla hl1 hl2) _ _ (hP) (hD) hS ls (lv_sub hl [2, 3, 4, 5, 1, 0] rfl)
abbrev r_c_X1_loseWhatIsNotPaid : Room := { frames := 0, cells := 0, slots := 0, locals := 0 }
set_option maxHeartbeats 4000000 in
set_option maxRecDepth 100000 in
theorem c_X1_loseWhatIsNotPaid (l : Launch) (D : va_G) (cI cZ : ClassId) (aC : Nat) (aPD : Nat) (aOR : Nat) (aHS : Nat) (aUN : Nat) (aFA : Nat) (aLO : Nat) (aLA : Nat) (fHS : Nat → Int32) (fLO : Nat → Int32) (nm : Nat) (c1 : Int32) (cr : Int32) (hnm : nm ≤ 10) : MV l yX1_loseWhatIsNotPaid wsX1_loseWhatIsNotPaid r_c_X1_loseWhatIsNotPaid D cI cZ [.ref aC] [ob aC 1 [.ref aPD, .ref aOR, .ref aHS, .ref aUN, .ref aFA, .ref aLO, .ref aLA, .int (nI nm), .int c1, .int cr], ar cI aHS 10 fHS, ar cI aLO 10 fLO] (fun (u : (Nat → Int32) × (Nat → Int32)) => u.1 = fil (fun m => fHS m - fLO m) fHS nm ∧ u.2 = fil (fun _ => 0) fLO nm) (fun (u : (Nat → Int32) × (Nat → Int32)) => [ob aC 1 [.ref aPD, .ref aOR, .ref aHS, .ref aUN, .ref aFA, .ref aLO, .ref aLA, .int (nI nm), .int c1, .int cr], ar cI aHS 10 u.1, ar cI aLO 10 u.2]) 0 0 := by
  refine MV.of (cc := cX1_loseWhatIsNotPaid) (maxL := 2) (by decide) rfl (Nat.le_of_ble_eq_true rfl) ?_
  intro p e s m below meth c A Q hx hb hml hown hts hN hK hA ret hP hD hS ls hl hmn
  have hown : s.vm.findClass RX1 = some m.cls := hown
  have inX1 : ∀ w ∈ wsX10, w ∈ wsX1_loseWhatIsNotPaid := by decide +kernel
  have fl18 := hts (.fieldLink RX1 18 "AdvanceBook$Clearing" "has" "[I") (by decide +kernel)
  have fl27 := hts (.fieldLink RX1 27 "AdvanceBook$Clearing" "lost" "[I") (by decide +kernel)
  have fl33 := hts (.fieldLink RX1 33 "AdvanceBook$Clearing" "men" "I") (by decide +kernel)
  have hP : va_P D vwCl [ob aC 1 [.ref aPD, .ref aOR, .ref aHS, .ref aUN, .ref aFA, .ref aLO, .ref aLA, .int (nI nm), .int c1, .int cr], ar cI aHS 10 fHS, ar cI aLO 10 fLO] s.heap := hP
  have hD : va_D A [ob aC 1 [.ref aPD, .ref aOR, .ref aHS, .ref aUN, .ref aFA, .ref aLO, .ref aLA, .int (nI nm), .int c1, .int cr], ar cI aHS 10 fHS, ar cI aLO 10 fLO] := hD
  have hl : lv_has ls 2 [(0, .ref aC)] := hl
  refine lv_iconst (v := 0) hx hb dX1_loseWhatIsNotPaid_0 (by decide) ?_
  refine lv_istore_n (lv' := [(1, .int 0), (0, .ref aC)]) hx hb dX1_loseWhatIsNotPaid_1 rfl hl (by decide) rfl (fun ls hl => ?_)
  have L_2 : ∀ (n_2 : Nat) (k : Nat) (hHS : Nat → Int32) (hLO : Nat → Int32), (nm - k < n_2) → (k ≤ nm) → (hHS = fil (fun m => fHS m - fLO m) fHS k) → (hLO = fil (fun _ => 0) fLO k) → ∀ (H : Heap) (locs : List Loc), va_P D vwCl [ob aC 1 [.ref aPD, .ref aOR, .ref aHS, .ref aUN, .ref aFA, .ref aLO, .ref aLA, .int (nI nm), .int c1, .int cr], ar cI aHS 10 hHS, ar cI aLO 10 hLO] H → va_D A [ob aC 1 [.ref aPD, .ref aOR, .ref aHS, .ref aUN, .ref aFA, .ref aLO, .ref aLA, .int (nI nm), .int c1, .int cr], ar cI aHS 10 hHS, ar cI aLO 10 hLO] → va_S A s.heap H locs → ∀ ls : Array Slot, lv_has ls 2 [(0, .ref aC), (1, .int (nI k))] → W p l e r_c_X1_loseWhatIsNotPaid s m (([.ref aC] : List Value).toArray) below meth c H locs 0 0 Q (F0 m 2 ls []) := by
    intro n_2
    induction n_2 with
    | zero => intro k hHS hLO hfu; exact absurd hfu (Nat.not_lt_zero _)
    | succ n_2 ih_2 =>
      intro k hHS hLO hfu_2 hk e1 e2 H locs hP hD hS ls hl
      refine lv_iload_n hx hb dX1_loseWhatIsNotPaid_2 rfl (lv_at hl 1 rfl) ?_
      refine lv_aload_n hx hb dX1_loseWhatIsNotPaid_3 rfl (lv_at hl 0 rfl) ?_
      refine va_get (D := D) (ci := 1) (v := .int (nI nm)) (C := RX1) (T := TX1) (N := 10) hx hb hts inX1 hown hK hP 0 rfl rfl 7 (by decide) fl33 (fun _ h9 => h9) rfl dX1_loseWhatIsNotPaid_4 ?_
      refine lv_icmp_ge (tgt := 38) hx hb dX1_loseWhatIsNotPaid_7 (by decide) (fun c_7 => ?_) (fun c_7 => ?_)
      · skip
        have k_7 : nm ≤ k := (nI_leI (a := nm) (b := k) (by omega) (by omega)).mp c_7
        exact ret (hHS, hLO) _ _ _ _ dX1_loseWhatIsNotPaid_38 (by have e : k = nm := (by omega); subst e; exact ⟨e1, e2⟩) (hP) (hD) hS
      · skip
        have k_7 : ¬ nm ≤ k := fun h9 => c_7 ((nI_leI (a := nm) (b := k) (by omega) (by omega)).mpr h9)
        refine lv_aload_n hx hb dX1_loseWhatIsNotPaid_10 rfl (lv_at hl 0 rfl) ?_
        refine va_get (D := D) (ci := 1) (v := .ref aHS) (C := RX1) (T := TX1) (N := 10) hx hb hts inX1 hown hK hP 0 rfl rfl 2 (by decide) fl18 (fun _ h9 => h9) rfl dX1_loseWhatIsNotPaid_11 ?_
        refine lv_iload_n hx hb dX1_loseWhatIsNotPaid_14 rfl (lv_at hl 1 rfl) ?_
        refine lv_dup2_11 hx hb dX1_loseWhatIsNotPaid_15 rfl rfl ?_
        refine m_iald (k := k) hx hb hK hP 1 0 rfl rfl (by omega) (by decide) dX1_loseWhatIsNotPaid_16 ?_
        refine lv_aload_n hx hb dX1_loseWhatIsNotPaid_17 rfl (lv_at hl 0 rfl) ?_
        refine va_get (D := D) (ci := 1) (v := .ref aLO) (C := RX1) (T := TX1) (N := 10) hx hb hts inX1 hown hK hP 0 rfl rfl 5 (by decide) fl27 (fun _ h9 => h9) rfl dX1_loseWhatIsNotPaid_18 ?_
        refine lv_iload_n hx hb dX1_loseWhatIsNotPaid_21 rfl (lv_at hl 1 rfl) ?_
        refine m_iald (k := k) hx hb hK hP 2 0 rfl rfl (by omega) (by decide) dX1_loseWhatIsNotPaid_22 ?_
        refine lv_isub hx hb dX1_loseWhatIsNotPaid_23 ?_
        refine m_iast (k := k) (x := ((hHS k) - (hLO k))) hx hb hK hP hD hS 1 0 rfl rfl (by omega) (by decide) dX1_loseWhatIsNotPaid_24 (fun H locs hP hD hS => ?_)
        have hP : va_P D vwCl [ob aC 1 [.ref aPD, .ref aOR, .ref aHS, .ref aUN, .ref aFA, .ref aLO, .ref aLA, .int (nI nm), .int c1, .int cr], ar cI aHS 10 (upd hHS k ((hHS k) - (hLO k))), ar cI aLO 10 hLO] H := hP
        have hD : va_D A [ob aC 1 [.ref aPD, .ref aOR, .ref aHS, .ref aUN, .ref aFA, .ref aLO, .ref aLA, .int (nI nm), .int c1, .int cr], ar cI aHS 10 (upd hHS k ((hHS k) - (hLO k))), ar cI aLO 10 hLO] := hD
        refine lv_aload_n hx hb dX1_loseWhatIsNotPaid_25 rfl (lv_at hl 0 rfl) ?_
        refine va_get (D := D) (ci := 1) (v := .ref aLO) (C := RX1) (T := TX1) (N := 10) hx hb hts inX1 hown hK hP 0 rfl rfl 5 (by decide) fl27 (fun _ h9 => h9) rfl dX1_loseWhatIsNotPaid_26 ?_
        refine lv_iload_n hx hb dX1_loseWhatIsNotPaid_29 rfl (lv_at hl 1 rfl) ?_
        refine lv_iconst (v := 0) hx hb dX1_loseWhatIsNotPaid_30 (by decide) ?_
        refine m_iast (k := k) (x := 0) hx hb hK hP hD hS 2 0 rfl rfl (by omega) (by decide) dX1_loseWhatIsNotPaid_31 (fun H locs hP hD hS => ?_)
        have hP : va_P D vwCl [ob aC 1 [.ref aPD, .ref aOR, .ref aHS, .ref aUN, .ref aFA, .ref aLO, .ref aLA, .int (nI nm), .int c1, .int cr], ar cI aHS 10 (upd hHS k ((hHS k) - (hLO k))), ar cI aLO 10 (upd hLO k 0)] H := hP
        have hD : va_D A [ob aC 1 [.ref aPD, .ref aOR, .ref aHS, .ref aUN, .ref aFA, .ref aLO, .ref aLA, .int (nI nm), .int c1, .int cr], ar cI aHS 10 (upd hHS k ((hHS k) - (hLO k))), ar cI aLO 10 (upd hLO k 0)] := hD
        refine lv_iinc (v := (nI (k + 1))) (lv' := [(1, .int (nI (k + 1))), (0, .ref aC)]) hx hb dX1_loseWhatIsNotPaid_32 hl (k := 1) rfl (nI_inc k 1 (by decide)) (by decide) rfl (fun ls hl => ?_)
        refine lv_goto (tgt := 2) hx hb dX1_loseWhatIsNotPaid_35 (by decide) ?_
        exact ih_2 (k + 1) (upd hHS k ((hHS k) - (hLO k))) (upd hLO k 0) (by omega) (by omega) (fil_step e1 (by rw [fil_at e1, fil_at e2])) (fil_step e2 rfl) _ _ (hP) (hD) hS ls (lv_sub hl [1, 0] rfl)
  exact L_2 ((nm - 0) + 1) 0 fHS fLO (Nat.lt_succ_self _) (by omega) (fil_0.symm) (fil_0.symm) _ _ (hP) (hD) hS ls (lv_sub hl [1, 0] rfl)
