abbrev r_c_X4_kindOf : Room := { frames := 0, cells := 0, slots := 0, locals := 0 }
set_option maxHeartbeats 4000000 in
set_option maxRecDepth 100000 in
theorem c_X4_kindOf (l : Launch) (D : va_G) (cI cZ : ClassId) (x : Int32)  : MI l yX4_kindOf wsX4_kindOf r_c_X4_kindOf D cI cZ [.int x] [] (fun (r : Int32) (u : Unit) => r = kindS x) (fun (u : Unit) => []) 0 0 := by
  refine MI.of (cc := cX4_kindOf) (maxL := 1) (by decide) rfl (Nat.le_of_ble_eq_true rfl) ?_
  intro p e s m below meth c A Q hx hb hml hown hts hN hK hA ret hP hD hS ls hl
  have hown : s.vm.findClass RX4 = some m.cls := hown
  have hP : va_P D vwCl [] s.heap := hP
  have hD : va_D A [] := hD
  have hl : lv_has ls 1 [(0, .int x)] := hl
  refine lv_iload_n hx hb dX4_kindOf_0 rfl (lv_at hl 0 rfl) ?_
  refine lv_bipush (v := 10) hx hb dX4_kindOf_1 (by decide) ?_
  refine lv_icmp_eq (tgt := 12) hx hb dX4_kindOf_3 (by decide) (fun c_3 => ?_) (fun c_3 => ?_)
  · skip
    refine lv_iconst (v := 0) hx hb dX4_kindOf_12 (by decide) ?_
    exact ret 0 () _ _ _ _ dX4_kindOf_13 (by unfold kindS; (try simp only [Int32.not_lt, Int32.not_le] at *); grind) (hP) (hD) hS
  · skip
    refine lv_iload_n hx hb dX4_kindOf_6 rfl (lv_at hl 0 rfl) ?_
    refine lv_bipush (v := 32) hx hb dX4_kindOf_7 (by decide) ?_
    refine lv_icmp_ne (tgt := 14) hx hb dX4_kindOf_9 (by decide) (fun c_9 => ?_) (fun c_9 => ?_)
    · skip
      refine lv_iload_n hx hb dX4_kindOf_14 rfl (lv_at hl 0 rfl) ?_
      refine lv_bipush (v := 97) hx hb dX4_kindOf_15 (by decide) ?_
      refine lv_icmp_lt (tgt := 28) hx hb dX4_kindOf_17 (by decide) (fun c_17 => ?_) (fun c_17 => ?_)
      · skip
        refine lv_iload_n hx hb dX4_kindOf_28 rfl (lv_at hl 0 rfl) ?_
        refine lv_bipush (v := 48) hx hb dX4_kindOf_29 (by decide) ?_
        refine lv_icmp_lt (tgt := 42) hx hb dX4_kindOf_31 (by decide) (fun c_31 => ?_) (fun c_31 => ?_)
        · skip
          refine lv_iload_n hx hb dX4_kindOf_42 rfl (lv_at hl 0 rfl) ?_
          refine lv_bipush (v := 59) hx hb dX4_kindOf_43 (by decide) ?_
          refine lv_icmp_ne (tgt := 52) hx hb dX4_kindOf_45 (by decide) (fun c_45 => ?_) (fun c_45 => ?_)
          · skip
            refine lv_iconst (v := 4) hx hb dX4_kindOf_52 (by decide) ?_
            exact ret 4 () _ _ _ _ dX4_kindOf_53 (by unfold kindS; (try simp only [Int32.not_lt, Int32.not_le] at *); grind) (hP) (hD) hS
          · skip
            refine lv_iconst (v := 3) hx hb dX4_kindOf_48 (by decide) ?_
            refine lv_goto (tgt := 53) hx hb dX4_kindOf_49 (by decide) ?_
            exact ret 3 () _ _ _ _ dX4_kindOf_53 (by unfold kindS; (try simp only [Int32.not_lt, Int32.not_le] at *); grind) (hP) (hD) hS
        · skip
          refine lv_iload_n hx hb dX4_kindOf_34 rfl (lv_at hl 0 rfl) ?_
          refine lv_bipush (v := 57) hx hb dX4_kindOf_35 (by decide) ?_
          refine lv_icmp_gt (tgt := 42) hx hb dX4_kindOf_37 (by decide) (fun c_37 => ?_) (fun c_37 => ?_)
          · skip
            refine lv_iload_n hx hb dX4_kindOf_42 rfl (lv_at hl 0 rfl) ?_
            refine lv_bipush (v := 59) hx hb dX4_kindOf_43 (by decide) ?_
            refine lv_icmp_ne (tgt := 52) hx hb dX4_kindOf_45 (by decide) (fun c_45 => ?_) (fun c_45 => ?_)
            · skip
              refine lv_iconst (v := 4) hx hb dX4_kindOf_52 (by decide) ?_
              exact ret 4 () _ _ _ _ dX4_kindOf_53 (by unfold kindS; (try simp only [Int32.not_lt, Int32.not_le] at *); grind) (hP) (hD) hS
            · skip
              refine lv_iconst (v := 3) hx hb dX4_kindOf_48 (by decide) ?_
              refine lv_goto (tgt := 53) hx hb dX4_kindOf_49 (by decide) ?_
              exact ret 3 () _ _ _ _ dX4_kindOf_53 (by unfold kindS; (try simp only [Int32.not_lt, Int32.not_le] at *); grind) (hP) (hD) hS
          · skip
            refine lv_iconst (v := 2) hx hb dX4_kindOf_40 (by decide) ?_
            exact ret 2 () _ _ _ _ dX4_kindOf_41 (by unfold kindS; (try simp only [Int32.not_lt, Int32.not_le] at *); grind) (hP) (hD) hS
      · skip
        refine lv_iload_n hx hb dX4_kindOf_20 rfl (lv_at hl 0 rfl) ?_
        refine lv_bipush (v := 122) hx hb dX4_kindOf_21 (by decide) ?_
        refine lv_icmp_gt (tgt := 28) hx hb dX4_kindOf_23 (by decide) (fun c_23 => ?_) (fun c_23 => ?_)
        · skip
          refine lv_iload_n hx hb dX4_kindOf_28 rfl (lv_at hl 0 rfl) ?_
          refine lv_bipush (v := 48) hx hb dX4_kindOf_29 (by decide) ?_
          refine lv_icmp_lt (tgt := 42) hx hb dX4_kindOf_31 (by decide) (fun c_31 => ?_) (fun c_31 => ?_)
          · skip
            refine lv_iload_n hx hb dX4_kindOf_42 rfl (lv_at hl 0 rfl) ?_
            refine lv_bipush (v := 59) hx hb dX4_kindOf_43 (by decide) ?_
            refine lv_icmp_ne (tgt := 52) hx hb dX4_kindOf_45 (by decide) (fun c_45 => ?_) (fun c_45 => ?_)
            · skip
              refine lv_iconst (v := 4) hx hb dX4_kindOf_52 (by decide) ?_
              exact ret 4 () _ _ _ _ dX4_kindOf_53 (by unfold kindS; (try simp only [Int32.not_lt, Int32.not_le] at *); grind) (hP) (hD) hS
            · skip
              refine lv_iconst (v := 3) hx hb dX4_kindOf_48 (by decide) ?_
              refine lv_goto (tgt := 53) hx hb dX4_kindOf_49 (by decide) ?_
              exact ret 3 () _ _ _ _ dX4_kindOf_53 (by unfold kindS; (try simp only [Int32.not_lt, Int32.not_le] at *); grind) (hP) (hD) hS
          · skip
            refine lv_iload_n hx hb dX4_kindOf_34 rfl (lv_at hl 0 rfl) ?_
            refine lv_bipush (v := 57) hx hb dX4_kindOf_35 (by decide) ?_
            refine lv_icmp_gt (tgt := 42) hx hb dX4_kindOf_37 (by decide) (fun c_37 => ?_) (fun c_37 => ?_)
            · skip
              refine lv_iload_n hx hb dX4_kindOf_42 rfl (lv_at hl 0 rfl) ?_
              refine lv_bipush (v := 59) hx hb dX4_kindOf_43 (by decide) ?_
              refine lv_icmp_ne (tgt := 52) hx hb dX4_kindOf_45 (by decide) (fun c_45 => ?_) (fun c_45 => ?_)
              · skip
                refine lv_iconst (v := 4) hx hb dX4_kindOf_52 (by decide) ?_
                exact ret 4 () _ _ _ _ dX4_kindOf_53 (by unfold kindS; (try simp only [Int32.not_lt, Int32.not_le] at *); grind) (hP) (hD) hS
              · skip
                refine lv_iconst (v := 3) hx hb dX4_kindOf_48 (by decide) ?_
                refine lv_goto (tgt := 53) hx hb dX4_kindOf_49 (by decide) ?_
                exact ret 3 () _ _ _ _ dX4_kindOf_53 (by unfold kindS; (try simp only [Int32.not_lt, Int32.not_le] at *); grind) (hP) (hD) hS
            · skip
              refine lv_iconst (v := 2) hx hb dX4_kindOf_40 (by decide) ?_
              exact ret 2 () _ _ _ _ dX4_kindOf_41 (by unfold kindS; (try simp only [Int32.not_lt, Int32.not_le] at *); grind) (hP) (hD) hS
        · skip
          refine lv_iconst (v := 1) hx hb dX4_kindOf_26 (by decide) ?_
          exact ret 1 () _ _ _ _ dX4_kindOf_27 (by unfold kindS; (try simp only [Int32.not_lt, Int32.not_le] at *); grind) (hP) (hD) hS
    · skip
      refine lv_iconst (v := 0) hx hb dX4_kindOf_12 (by decide) ?_
      exact ret 0 () _ _ _ _ dX4_kindOf_13 (by unfold kindS; (try simp only [Int32.not_lt, Int32.not_le] at *); grind) (hP) (hD) hS
abbrev r_c_X4_isInARow : Room := { frames := 0, cells := 0, slots := 0, locals := 0 }
set_option maxHeartbeats 4000000 in
set_option maxRecDepth 100000 in
theorem c_X4_isInARow (l : Launch) (D : va_G) (cI cZ : ClassId) (aR : Nat) (aTX : Nat) (n : Nat) (kd : Int32) (st : Int32) (nx : Int32) (fa : Int32) (fp : Int32)  : MI l yX4_isInARow wsX4_isInARow r_c_X4_isInARow D cI cZ [.ref aR] [ob aR 4 [.ref aTX, .int (nI n), .int kd, .int st, .int nx, .int fa, .int fp]] (fun (r : Int32) (u : Unit) => r = if kd = 1 ∨ kd = 2 then 1 else 0) (fun (u : Unit) => [ob aR 4 [.ref aTX, .int (nI n), .int kd, .int st, .int nx, .int fa, .int fp]]) 0 0 := by
  refine MI.ofZ (cc := cX4_isInARow) (maxL := 1) (by decide) rfl (Nat.le_of_ble_eq_true rfl) ?_
  intro p e s m below meth c A Q hx hb hml hown hts hN hK hA ret hP hD hS ls hl
  have hown : s.vm.findClass RX4 = some m.cls := hown
  have inX4 : ∀ w ∈ wsX40, w ∈ wsX4_isInARow := by decide +kernel
  have fl19 := hts (.fieldLink RX4 19 "AdvanceBook$Reader" "kind" "I") (by decide +kernel)
  have hP : va_P D vwCl [ob aR 4 [.ref aTX, .int (nI n), .int kd, .int st, .int nx, .int fa, .int fp]] s.heap := hP
  have hD : va_D A [ob aR 4 [.ref aTX, .int (nI n), .int kd, .int st, .int nx, .int fa, .int fp]] := hD
  have hl : lv_has ls 1 [(0, .ref aR)] := hl
  refine lv_aload_n hx hb dX4_isInARow_0 rfl (lv_at hl 0 rfl) ?_
  refine va_get (D := D) (ci := 4) (v := .int kd) (C := RX4) (T := TX4) (N := 7) hx hb hts inX4 hown hK hP 0 rfl rfl 2 (by decide) fl19 (fun _ h9 => h9) rfl dX4_isInARow_1 ?_
  refine lv_iconst (v := 1) hx hb dX4_isInARow_4 (by decide) ?_
  refine lv_icmp_eq (tgt := 16) hx hb dX4_isInARow_5 (by decide) (fun c_5 => ?_) (fun c_5 => ?_)
  · skip
    refine lv_iconst (v := 1) hx hb dX4_isInARow_16 (by decide) ?_
    refine lv_goto (tgt := 21) hx hb dX4_isInARow_17 (by decide) ?_
    exact ret 1 () _ _ _ _ dX4_isInARow_21 (Or.inr rfl) (by grind) (hP) (hD) hS
  · skip
    refine lv_aload_n hx hb dX4_isInARow_8 rfl (lv_at hl 0 rfl) ?_
    refine va_get (D := D) (ci := 4) (v := .int kd) (C := RX4) (T := TX4) (N := 7) hx hb hts inX4 hown hK hP 0 rfl rfl 2 (by decide) fl19 (fun _ h9 => h9) rfl dX4_isInARow_9 ?_
    refine lv_iconst (v := 2) hx hb dX4_isInARow_12 (by decide) ?_
    refine lv_icmp_ne (tgt := 20) hx hb dX4_isInARow_13 (by decide) (fun c_13 => ?_) (fun c_13 => ?_)
    · skip
      refine lv_iconst (v := 0) hx hb dX4_isInARow_20 (by decide) ?_
      exact ret 0 () _ _ _ _ dX4_isInARow_21 (Or.inl rfl) (by grind) (hP) (hD) hS
    · skip
      refine lv_iconst (v := 1) hx hb dX4_isInARow_16 (by decide) ?_
      refine lv_goto (tgt := 21) hx hb dX4_isInARow_17 (by decide) ?_
      exact ret 1 () _ _ _ _ dX4_isInARow_21 (Or.inr rfl) (by grind) (hP) (hD) hS
abbrev r_c_X4_step : Room := { frames := 1, cells := 0, slots := 0, locals := 20 }
set_option maxHeartbeats 4000000 in
set_option maxRecDepth 100000 in
theorem c_X4_step (l : Launch) (D : va_G) (cI cZ : ClassId) (aR : Nat) (aTX : Nat) (fTX : Nat → Int32) (t : Nat → Int32) (n : Nat) (pp : Nat) (kd : Int32) (st : Int32) (fa : Int32) (fp : Int32) (hn : n ≤ 300) (hp : pp ≤ n) (ht : ∀ j, j < n → fTX j = t j) : MV l yX4_step wsX4_step r_c_X4_step D cI cZ [.ref aR] [ob aR 4 [.ref aTX, .int (nI n), .int kd, .int st, .int (nI pp), .int fa, .int fp], ar cI aTX 300 fTX] (fun (u : Int32 × Nat × Nat) => u.1 = tKd t n pp ∧ u.2.1 = tSt t n pp ∧ u.2.2 = tNx t n pp) (fun (u : Int32 × Nat × Nat) => [ob aR 4 [.ref aTX, .int (nI n), .int u.1, .int (nI u.2.1), .int (nI u.2.2), .int fa, .int fp], ar cI aTX 300 fTX]) 0 0 := by
  refine MV.of (cc := cX4_step) (maxL := 1) (by decide) rfl (Nat.le_of_ble_eq_true rfl) ?_
  intro p e s m below meth c A Q hx hb hml hown hts hN hK hA ret hP hD hS ls hl hmn
  have hown : s.vm.findClass RX4 = some m.cls := hown
  have inX4 : ∀ w ∈ wsX40, w ∈ wsX4_step := by decide +kernel
  have fl9 := hts (.fieldLink RX4 9 "AdvanceBook$Reader" "text" "[I") (by decide +kernel)
  have fl15 := hts (.fieldLink RX4 15 "AdvanceBook$Reader" "length" "I") (by decide +kernel)
  have fl19 := hts (.fieldLink RX4 19 "AdvanceBook$Reader" "kind" "I") (by decide +kernel)
  have fl22 := hts (.fieldLink RX4 22 "AdvanceBook$Reader" "start" "I") (by decide +kernel)
  have fl25 := hts (.fieldLink RX4 25 "AdvanceBook$Reader" "next" "I") (by decide +kernel)
  have hP : va_P D vwCl [ob aR 4 [.ref aTX, .int (nI n), .int kd, .int st, .int (nI pp), .int fa, .int fp], ar cI aTX 300 fTX] s.heap := hP
  have hD : va_D A [ob aR 4 [.ref aTX, .int (nI n), .int kd, .int st, .int (nI pp), .int fa, .int fp], ar cI aTX 300 fTX] := hD
  have hl : lv_has ls 1 [(0, .ref aR)] := hl
  have L_0 : ∀ (n_0 : Nat) (k : Nat), (n - k < n_0) → (k ≤ n) → (runT t n 0 pp = runT t n 0 k) → ∀ (H : Heap) (locs : List Loc), va_P D vwCl [ob aR 4 [.ref aTX, .int (nI n), .int kd, .int st, .int (nI k), .int fa, .int fp], ar cI aTX 300 fTX] H → va_D A [ob aR 4 [.ref aTX, .int (nI n), .int kd, .int st, .int (nI k), .int fa, .int fp], ar cI aTX 300 fTX] → va_S A s.heap H locs → ∀ ls : Array Slot, lv_has ls 1 [(0, .ref aR)] → W p l e r_c_X4_step s m (([.ref aR] : List Value).toArray) below meth c H locs 0 0 Q (F0 m 0 ls []) := by
    intro n_0
    induction n_0 with
    | zero => intro k hfu; exact absurd hfu (Nat.not_lt_zero _)
    | succ n_0 ih_0 =>
      intro k hfu_0 hk hr H locs hP hD hS ls hl
      have J_39 : (tSt t n pp = k) → ∀ (H : Heap) (locs : List Loc), va_P D vwCl [ob aR 4 [.ref aTX, .int (nI n), .int kd, .int st, .int (nI k), .int fa, .int fp], ar cI aTX 300 fTX] H → va_D A [ob aR 4 [.ref aTX, .int (nI n), .int kd, .int st, .int (nI k), .int fa, .int fp], ar cI aTX 300 fTX] → va_S A s.heap H locs → ∀ ls : Array Slot, lv_has ls 1 [(0, .ref aR)] → W p l e r_c_X4_step s m (([.ref aR] : List Value).toArray) below meth c H locs 0 0 Q (F0 m 39 ls []) := by
        intro  hst H locs hP hD hS ls hl
        refine lv_aload_n hx hb dX4_step_39 rfl (lv_at hl 0 rfl) ?_
        refine lv_aload_n hx hb dX4_step_40 rfl (lv_at hl 0 rfl) ?_
        refine va_get (D := D) (ci := 4) (v := .int (nI k)) (C := RX4) (T := TX4) (N := 7) hx hb hts inX4 hown hK hP 0 rfl rfl 4 (by decide) fl25 (fun _ h9 => h9) rfl dX4_step_41 ?_
        refine va_put (D := D) (ci := 4) (v := .int (nI k)) (ty := .int) (C := RX4) (T := TX4) (N := 7) hx hb hts inX4 tyX4 tyX4_ok nmX4 hown hK hP hD hS 0 rfl rfl 3 (by decide) fl22 (fun _ h9 => h9) rfl (by decide +kernel) (rfl) (rfl) (Nat.le_of_ble_eq_true rfl) dX4_step_44 (fun H locs hP hD hS => ?_)
        have hP : va_P D vwCl [ob aR 4 [.ref aTX, .int (nI n), .int kd, .int (nI k), .int (nI k), .int fa, .int fp], ar cI aTX 300 fTX] H := hP
        have hD : va_D A [ob aR 4 [.ref aTX, .int (nI n), .int kd, .int (nI k), .int (nI k), .int fa, .int fp], ar cI aTX 300 fTX] := hD
        refine lv_aload_n hx hb dX4_step_47 rfl (lv_at hl 0 rfl) ?_
        refine va_get (D := D) (ci := 4) (v := .int (nI k)) (C := RX4) (T := TX4) (N := 7) hx hb hts inX4 hown hK hP 0 rfl rfl 3 (by decide) fl22 (fun _ h9 => h9) rfl dX4_step_48 ?_
        refine lv_aload_n hx hb dX4_step_51 rfl (lv_at hl 0 rfl) ?_
        refine va_get (D := D) (ci := 4) (v := .int (nI n)) (C := RX4) (T := TX4) (N := 7) hx hb hts inX4 hown hK hP 0 rfl rfl 1 (by decide) fl15 (fun _ h9 => h9) rfl dX4_step_52 ?_
        refine lv_icmp_lt (tgt := 64) hx hb dX4_step_55 (by decide) (fun c_55 => ?_) (fun c_55 => ?_)
        · skip
          have k_55 : k < n := (nI_ltI (a := k) (b := n) (by omega) (by omega)).mp c_55
          refine lv_aload_n hx hb dX4_step_64 rfl (lv_at hl 0 rfl) ?_
          refine lv_aload_n hx hb dX4_step_65 rfl (lv_at hl 0 rfl) ?_
          refine va_get (D := D) (ci := 4) (v := .ref aTX) (C := RX4) (T := TX4) (N := 7) hx hb hts inX4 hown hK hP 0 rfl rfl 0 (by decide) fl9 (fun _ h9 => h9) rfl dX4_step_66 ?_
          refine lv_aload_n hx hb dX4_step_69 rfl (lv_at hl 0 rfl) ?_
          refine va_get (D := D) (ci := 4) (v := .int (nI k)) (C := RX4) (T := TX4) (N := 7) hx hb hts inX4 hown hK hP 0 rfl rfl 3 (by decide) fl22 (fun _ h9 => h9) rfl dX4_step_70 ?_
          refine m_iald (k := k) hx hb hK hP 1 0 rfl rfl (by omega) (by decide) dX4_step_73 ?_
          refine m_cSi (As := [.int (fTX k)]) (rest := [.ref aR]) (wr := [ob aR 4 [.ref aTX, .int (nI n), .int kd, .int (nI k), .int (nI k), .int fa, .int fp], ar cI aTX 300 fTX]) ⟨hx, hb, hml, hown, hts⟩ (c_X4_kindOf l D cI cZ (fTX k) ) (va_cwS 1 hts gX4_step_X4_kindOf rfl rfl rfl (by decide +kernel) ⟨Nat.le_of_ble_eq_true rfl, Nat.le_of_ble_eq_true rfl⟩) hN hK hP hD hS hA [] [0, 1] rfl rfl (by decide) (by decide) (by decide) rfl hl.1 rfl (Nat.le_of_ble_eq_true rfl) dX4_step_74 ⟨Nat.le_of_ble_eq_true rfl, Nat.le_of_ble_eq_true rfl⟩ (fun r_74 u_74 H locs hq_74 hP hD hS => ?_)
          replace hq_74 : r_74 = kindS (fTX k) := hq_74
          have hP : va_P D vwCl [ob aR 4 [.ref aTX, .int (nI n), .int kd, .int (nI k), .int (nI k), .int fa, .int fp], ar cI aTX 300 fTX] H := hP
          have hD : va_D A [ob aR 4 [.ref aTX, .int (nI n), .int kd, .int (nI k), .int (nI k), .int fa, .int fp], ar cI aTX 300 fTX] := hD
          refine va_put (D := D) (ci := 4) (v := .int r_74) (ty := .int) (C := RX4) (T := TX4) (N := 7) hx hb hts inX4 tyX4 tyX4_ok nmX4 hown hK hP hD hS 0 rfl rfl 2 (by decide) fl19 (fun _ h9 => h9) rfl (by decide +kernel) (rfl) (rfl) (Nat.le_of_ble_eq_true rfl) dX4_step_77 (fun H locs hP hD hS => ?_)
          have hP : va_P D vwCl [ob aR 4 [.ref aTX, .int (nI n), .int r_74, .int (nI k), .int (nI k), .int fa, .int fp], ar cI aTX 300 fTX] H := hP
          have hD : va_D A [ob aR 4 [.ref aTX, .int (nI n), .int r_74, .int (nI k), .int (nI k), .int fa, .int fp], ar cI aTX 300 fTX] := hD
          have hin : tSt t n pp < n := (by rw [hst]; exact k_55)
          have hkd : r_74 = tKd t n pp := (by rw [hq_74, ht k k_55, tKd_in hin, hst])
          refine lv_aload_n hx hb dX4_step_80 rfl (lv_at hl 0 rfl) ?_
          refine lv_dup hx hb dX4_step_81 rfl ?_
          refine va_get (D := D) (ci := 4) (v := .int (nI k)) (C := RX4) (T := TX4) (N := 7) hx hb hts inX4 hown hK hP 0 rfl rfl 4 (by decide) fl25 (fun _ h9 => h9) rfl dX4_step_82 ?_
          refine lv_iconst (v := 1) hx hb dX4_step_85 (by decide) ?_
          refine m_iaddN (a := k) (b := 1) hx hb dX4_step_86 ?_
          refine va_put (D := D) (ci := 4) (v := .int (nI (k + 1))) (ty := .int) (C := RX4) (T := TX4) (N := 7) hx hb hts inX4 tyX4 tyX4_ok nmX4 hown hK hP hD hS 0 rfl rfl 4 (by decide) fl25 (fun _ h9 => h9) rfl (by decide +kernel) (rfl) (rfl) (Nat.le_of_ble_eq_true rfl) dX4_step_87 (fun H locs hP hD hS => ?_)
          have hP : va_P D vwCl [ob aR 4 [.ref aTX, .int (nI n), .int r_74, .int (nI k), .int (nI (k + 1)), .int fa, .int fp], ar cI aTX 300 fTX] H := hP
          have hD : va_D A [ob aR 4 [.ref aTX, .int (nI n), .int r_74, .int (nI k), .int (nI (k + 1)), .int fa, .int fp], ar cI aTX 300 fTX] := hD
          have L_90 : ∀ (n_90 : Nat) (k2 : Nat), (n - k2 < n_90) → (k2 ≤ n) → (k < k2) → (tKd t n pp = 1 ∨ tKd t n pp = 2 → tNx t n pp = runT t n (tKd t n pp) k2) → (¬ (tKd t n pp = 1 ∨ tKd t n pp = 2) → k2 = k + 1) → ∀ (H : Heap) (locs : List Loc), va_P D vwCl [ob aR 4 [.ref aTX, .int (nI n), .int r_74, .int (nI k), .int (nI k2), .int fa, .int fp], ar cI aTX 300 fTX] H → va_D A [ob aR 4 [.ref aTX, .int (nI n), .int r_74, .int (nI k), .int (nI k2), .int fa, .int fp], ar cI aTX 300 fTX] → va_S A s.heap H locs → ∀ ls : Array Slot, lv_has ls 1 [(0, .ref aR)] → W p l e r_c_X4_step s m (([.ref aR] : List Value).toArray) below meth c H locs 0 0 Q (F0 m 90 ls []) := by
            intro n_90
            induction n_90 with
            | zero => intro k2 hfu; exact absurd hfu (Nat.not_lt_zero _)
            | succ n_90 ih_90 =>
              intro k2 hfu_90 hk2 hk3 hr2 hr3 H locs hP hD hS ls hl
              refine lv_aload_n hx hb dX4_step_90 rfl (lv_at hl 0 rfl) ?_
              refine va_get (D := D) (ci := 4) (v := .int (nI k2)) (C := RX4) (T := TX4) (N := 7) hx hb hts inX4 hown hK hP 0 rfl rfl 4 (by decide) fl25 (fun _ h9 => h9) rfl dX4_step_91 ?_
              refine lv_aload_n hx hb dX4_step_94 rfl (lv_at hl 0 rfl) ?_
              refine va_get (D := D) (ci := 4) (v := .int (nI n)) (C := RX4) (T := TX4) (N := 7) hx hb hts inX4 hown hK hP 0 rfl rfl 1 (by decide) fl15 (fun _ h9 => h9) rfl dX4_step_95 ?_
              refine lv_icmp_ge (tgt := 140) hx hb dX4_step_98 (by decide) (fun c_98 => ?_) (fun c_98 => ?_)
              · skip
                have k_98 : n ≤ k2 := (nI_leI (a := n) (b := k2) (by omega) (by omega)).mp c_98
                exact ret (r_74, k, k2) _ _ _ _ dX4_step_140 (by refine ⟨hkd, hst.symm, ?_⟩; show k2 = tNx t n pp; by_cases z : tKd t n pp = 1 ∨ tKd t n pp = 2; (first | (rw [hr2 z, runT_out k_98]) | exact absurd z (hrow0 c_105) | (rw [hr2 z]; exact (runT_no (fun q => c_124 (by rw [hq_117, hkd, ht k2 (by omega)]; exact q))).symm)); rw [hr3 z, tNx_one hin z, hst]) (hP) (hD) hS
              · skip
                have k_98 : ¬ n ≤ k2 := fun h9 => c_98 ((nI_leI (a := n) (b := k2) (by omega) (by omega)).mpr h9)
                refine lv_aload_n hx hb dX4_step_101 rfl (lv_at hl 0 rfl) ?_
                refine m_cVi (As := []) (rest := []) (wr := [ar cI aTX 300 fTX]) ⟨hx, hb, hml, hown, hts⟩ (c_X4_isInARow l D cI cZ aR aTX n r_74 (nI k) (nI k2) fa fp ) (cwV 0 hts gX4_step_X4_isInARow rfl rfl rfl (by decide +kernel) ⟨Nat.le_of_ble_eq_true rfl, Nat.le_of_ble_eq_true rfl⟩) hN hK hP hD hS hA [0] [1] rfl rfl (by decide) (by decide) (by decide) 0 (ci := 4) rfl rfl rfl rfl hl.1 rfl (Nat.le_of_ble_eq_true rfl) dX4_step_102 ⟨Nat.le_of_ble_eq_true rfl, Nat.le_of_ble_eq_true rfl⟩ (fun r_102 u_102 H locs hq_102 hP hD hS => ?_)
                replace hq_102 : r_102 = if r_74 = 1 ∨ r_74 = 2 then 1 else 0 := hq_102
                have hP : va_P D vwCl [ar cI aTX 300 fTX, ob aR 4 [.ref aTX, .int (nI n), .int r_74, .int (nI k), .int (nI k2), .int fa, .int fp]] H := hP
                have hD : va_D A [ar cI aTX 300 fTX, ob aR 4 [.ref aTX, .int (nI n), .int r_74, .int (nI k), .int (nI k2), .int fa, .int fp]] := hD
                have hrow : ¬ r_102 = 0 → (tKd t n pp = 1 ∨ tKd t n pp = 2) := (fun q => by rw [hkd] at hq_102; by_cases z : tKd t n pp = 1 ∨ tKd t n pp = 2; exact z; rw [if_neg z] at hq_102; exact absurd hq_102 q)
                have hrow0 : r_102 = 0 → ¬ (tKd t n pp = 1 ∨ tKd t n pp = 2) := (fun q z => by rw [hkd, if_pos z, q] at hq_102; exact absurd hq_102 (by decide))
                refine lv_if_eq (tgt := 140) hx hb dX4_step_105 (by decide) (fun c_105 => ?_) (fun c_105 => ?_)
                · skip
                  exact ret (r_74, k, k2) _ _ _ _ dX4_step_140 (by refine ⟨hkd, hst.symm, ?_⟩; show k2 = tNx t n pp; by_cases z : tKd t n pp = 1 ∨ tKd t n pp = 2; (first | (rw [hr2 z, runT_out k_98]) | exact absurd z (hrow0 c_105) | (rw [hr2 z]; exact (runT_no (fun q => c_124 (by rw [hq_117, hkd, ht k2 (by omega)]; exact q))).symm)); rw [hr3 z, tNx_one hin z, hst]) (hP.sub [1, 0] rfl) (hD.sub [1, 0] (by decide) rfl) hS
                · skip
                  refine lv_aload_n hx hb dX4_step_108 rfl (lv_at hl 0 rfl) ?_
                  refine va_get (D := D) (ci := 4) (v := .ref aTX) (C := RX4) (T := TX4) (N := 7) hx hb hts inX4 hown hK hP 1 rfl rfl 0 (by decide) fl9 (fun _ h9 => h9) rfl dX4_step_109 ?_
                  refine lv_aload_n hx hb dX4_step_112 rfl (lv_at hl 0 rfl) ?_
                  refine va_get (D := D) (ci := 4) (v := .int (nI k2)) (C := RX4) (T := TX4) (N := 7) hx hb hts inX4 hown hK hP 1 rfl rfl 4 (by decide) fl25 (fun _ h9 => h9) rfl dX4_step_113 ?_
                  refine m_iald (k := k2) hx hb hK hP 0 0 rfl rfl (by omega) (by decide) dX4_step_116 ?_
                  refine m_cSi (As := [.int (fTX k2)]) (rest := []) (wr := [ar cI aTX 300 fTX, ob aR 4 [.ref aTX, .int (nI n), .int r_74, .int (nI k), .int (nI k2), .int fa, .int fp]]) ⟨hx, hb, hml, hown, hts⟩ (c_X4_kindOf l D cI cZ (fTX k2) ) (va_cwS 1 hts gX4_step_X4_kindOf rfl rfl rfl (by decide +kernel) ⟨Nat.le_of_ble_eq_true rfl, Nat.le_of_ble_eq_true rfl⟩) hN hK hP hD hS hA [] [0, 1] rfl rfl (by decide) (by decide) (by decide) rfl hl.1 rfl (Nat.le_of_ble_eq_true rfl) dX4_step_117 ⟨Nat.le_of_ble_eq_true rfl, Nat.le_of_ble_eq_true rfl⟩ (fun r_117 u_117 H locs hq_117 hP hD hS => ?_)
                  replace hq_117 : r_117 = kindS (fTX k2) := hq_117
                  have hP : va_P D vwCl [ar cI aTX 300 fTX, ob aR 4 [.ref aTX, .int (nI n), .int r_74, .int (nI k), .int (nI k2), .int fa, .int fp]] H := hP
                  have hD : va_D A [ar cI aTX 300 fTX, ob aR 4 [.ref aTX, .int (nI n), .int r_74, .int (nI k), .int (nI k2), .int fa, .int fp]] := hD
                  refine lv_aload_n hx hb dX4_step_120 rfl (lv_at hl 0 rfl) ?_
                  refine va_get (D := D) (ci := 4) (v := .int r_74) (C := RX4) (T := TX4) (N := 7) hx hb hts inX4 hown hK hP 1 rfl rfl 2 (by decide) fl19 (fun _ h9 => h9) rfl dX4_step_121 ?_
                  refine lv_icmp_ne (tgt := 140) hx hb dX4_step_124 (by decide) (fun c_124 => ?_) (fun c_124 => ?_)
                  · skip
                    exact ret (r_74, k, k2) _ _ _ _ dX4_step_140 (by refine ⟨hkd, hst.symm, ?_⟩; show k2 = tNx t n pp; by_cases z : tKd t n pp = 1 ∨ tKd t n pp = 2; (first | (rw [hr2 z, runT_out k_98]) | exact absurd z (hrow0 c_105) | (rw [hr2 z]; exact (runT_no (fun q => c_124 (by rw [hq_117, hkd, ht k2 (by omega)]; exact q))).symm)); rw [hr3 z, tNx_one hin z, hst]) (hP.sub [1, 0] rfl) (hD.sub [1, 0] (by decide) rfl) hS
                  · skip
                    refine lv_aload_n hx hb dX4_step_127 rfl (lv_at hl 0 rfl) ?_
                    refine lv_dup hx hb dX4_step_128 rfl ?_
                    refine va_get (D := D) (ci := 4) (v := .int (nI k2)) (C := RX4) (T := TX4) (N := 7) hx hb hts inX4 hown hK hP 1 rfl rfl 4 (by decide) fl25 (fun _ h9 => h9) rfl dX4_step_129 ?_
                    refine lv_iconst (v := 1) hx hb dX4_step_132 (by decide) ?_
                    refine m_iaddN (a := k2) (b := 1) hx hb dX4_step_133 ?_
                    refine va_put (D := D) (ci := 4) (v := .int (nI (k2 + 1))) (ty := .int) (C := RX4) (T := TX4) (N := 7) hx hb hts inX4 tyX4 tyX4_ok nmX4 hown hK hP hD hS 1 rfl rfl 4 (by decide) fl25 (fun _ h9 => h9) rfl (by decide +kernel) (rfl) (rfl) (Nat.le_of_ble_eq_true rfl) dX4_step_134 (fun H locs hP hD hS => ?_)
                    have hP : va_P D vwCl [ar cI aTX 300 fTX, ob aR 4 [.ref aTX, .int (nI n), .int r_74, .int (nI k), .int (nI (k2 + 1)), .int fa, .int fp]] H := hP
                    have hD : va_D A [ar cI aTX 300 fTX, ob aR 4 [.ref aTX, .int (nI n), .int r_74, .int (nI k), .int (nI (k2 + 1)), .int fa, .int fp]] := hD
                    refine lv_goto (tgt := 90) hx hb dX4_step_137 (by decide) ?_
                    exact ih_90 (k2 + 1) (by omega) (by omega) (by omega) (fun q => (hr2 q).trans (runT_in (Nat.lt_of_not_le k_98) (by rw [← ht k2 (Nat.lt_of_not_le k_98), ← hq_117, ← hkd]; exact c_124))) (fun q => absurd (hrow c_105) q) _ _ (hP.sub [1, 0] rfl) (hD.sub [1, 0] (by decide) rfl) hS ls (lv_sub hl [0] rfl)
          exact L_90 ((n - (k + 1)) + 1) (k + 1) (Nat.lt_succ_self _) (by omega) (by omega) (fun q => by rw [tNx_row hin q, hst]) (fun _ => rfl) _ _ (hP) (hD) hS ls (lv_sub hl [0] rfl)
        · skip
          have k_55 : ¬ k < n := fun h9 => c_55 ((nI_ltI (a := k) (b := n) (by omega) (by omega)).mpr h9)
          refine lv_aload_n hx hb dX4_step_58 rfl (lv_at hl 0 rfl) ?_
          refine lv_iconst (v := 5) hx hb dX4_step_59 (by decide) ?_
          refine va_put (D := D) (ci := 4) (v := .int 5) (ty := .int) (C := RX4) (T := TX4) (N := 7) hx hb hts inX4 tyX4 tyX4_ok nmX4 hown hK hP hD hS 0 rfl rfl 2 (by decide) fl19 (fun _ h9 => h9) rfl (by decide +kernel) (rfl) (rfl) (Nat.le_of_ble_eq_true rfl) dX4_step_60 (fun H locs hP hD hS => ?_)
          have hP : va_P D vwCl [ob aR 4 [.ref aTX, .int (nI n), .int 5, .int (nI k), .int (nI k), .int fa, .int fp], ar cI aTX 300 fTX] H := hP
          have hD : va_D A [ob aR 4 [.ref aTX, .int (nI n), .int 5, .int (nI k), .int (nI k), .int fa, .int fp], ar cI aTX 300 fTX] := hD
          exact ret (5, k, k) _ _ _ _ dX4_step_63 (by have hno : ¬ tSt t n pp < n := (by rw [hst]; exact k_55); exact ⟨(tKd_5 hno).symm, hst.symm, by rw [tNx_out hno, hst]⟩) (hP) (hD) hS
      refine lv_aload_n hx hb dX4_step_0 rfl (lv_at hl 0 rfl) ?_
      refine va_get (D := D) (ci := 4) (v := .int (nI k)) (C := RX4) (T := TX4) (N := 7) hx hb hts inX4 hown hK hP 0 rfl rfl 4 (by decide) fl25 (fun _ h9 => h9) rfl dX4_step_1 ?_
      refine lv_aload_n hx hb dX4_step_4 rfl (lv_at hl 0 rfl) ?_
      refine va_get (D := D) (ci := 4) (v := .int (nI n)) (C := RX4) (T := TX4) (N := 7) hx hb hts inX4 hown hK hP 0 rfl rfl 1 (by decide) fl15 (fun _ h9 => h9) rfl dX4_step_5 ?_
      refine lv_icmp_ge (tgt := 39) hx hb dX4_step_8 (by decide) (fun c_8 => ?_) (fun c_8 => ?_)
      · skip
        have k_8 : n ≤ k := (nI_leI (a := n) (b := k) (by omega) (by omega)).mp c_8
        exact J_39  (by first | exact hr.trans (runT_out k_8) | (have hkn : k < n := (by omega); exact hr.trans (runT_no (fun q => c_23 (by rw [hq_20, ht k hkn]; exact q))))) _ _ (hP) (hD) hS ls (lv_sub hl [0] rfl)
      · skip
        have k_8 : ¬ n ≤ k := fun h9 => c_8 ((nI_leI (a := n) (b := k) (by omega) (by omega)).mpr h9)
        refine lv_aload_n hx hb dX4_step_11 rfl (lv_at hl 0 rfl) ?_
        refine va_get (D := D) (ci := 4) (v := .ref aTX) (C := RX4) (T := TX4) (N := 7) hx hb hts inX4 hown hK hP 0 rfl rfl 0 (by decide) fl9 (fun _ h9 => h9) rfl dX4_step_12 ?_
        refine lv_aload_n hx hb dX4_step_15 rfl (lv_at hl 0 rfl) ?_
        refine va_get (D := D) (ci := 4) (v := .int (nI k)) (C := RX4) (T := TX4) (N := 7) hx hb hts inX4 hown hK hP 0 rfl rfl 4 (by decide) fl25 (fun _ h9 => h9) rfl dX4_step_16 ?_
        refine m_iald (k := k) hx hb hK hP 1 0 rfl rfl (by omega) (by decide) dX4_step_19 ?_
        refine m_cSi (As := [.int (fTX k)]) (rest := []) (wr := [ob aR 4 [.ref aTX, .int (nI n), .int kd, .int st, .int (nI k), .int fa, .int fp], ar cI aTX 300 fTX]) ⟨hx, hb, hml, hown, hts⟩ (c_X4_kindOf l D cI cZ (fTX k) ) (va_cwS 1 hts gX4_step_X4_kindOf rfl rfl rfl (by decide +kernel) ⟨Nat.le_of_ble_eq_true rfl, Nat.le_of_ble_eq_true rfl⟩) hN hK hP hD hS hA [] [0, 1] rfl rfl (by decide) (by decide) (by decide) rfl hl.1 rfl (Nat.le_of_ble_eq_true rfl) dX4_step_20 ⟨Nat.le_of_ble_eq_true rfl, Nat.le_of_ble_eq_true rfl⟩ (fun r_20 u_20 H locs hq_20 hP hD hS => ?_)
        replace hq_20 : r_20 = kindS (fTX k) := hq_20
        have hP : va_P D vwCl [ob aR 4 [.ref aTX, .int (nI n), .int kd, .int st, .int (nI k), .int fa, .int fp], ar cI aTX 300 fTX] H := hP
        have hD : va_D A [ob aR 4 [.ref aTX, .int (nI n), .int kd, .int st, .int (nI k), .int fa, .int fp], ar cI aTX 300 fTX] := hD
        refine lv_if_ne (tgt := 39) hx hb dX4_step_23 (by decide) (fun c_23 => ?_) (fun c_23 => ?_)
        · skip
          exact J_39  (by first | exact hr.trans (runT_out k_8) | (have hkn : k < n := (by omega); exact hr.trans (runT_no (fun q => c_23 (by rw [hq_20, ht k hkn]; exact q))))) _ _ (hP) (hD) hS ls (lv_sub hl [0] rfl)
        · skip
          refine lv_aload_n hx hb dX4_step_26 rfl (lv_at hl 0 rfl) ?_
          refine lv_dup hx hb dX4_step_27 rfl ?_
          refine va_get (D := D) (ci := 4) (v := .int (nI k)) (C := RX4) (T := TX4) (N := 7) hx hb hts inX4 hown hK hP 0 rfl rfl 4 (by decide) fl25 (fun _ h9 => h9) rfl dX4_step_28 ?_
          refine lv_iconst (v := 1) hx hb dX4_step_31 (by decide) ?_
          refine m_iaddN (a := k) (b := 1) hx hb dX4_step_32 ?_
          refine va_put (D := D) (ci := 4) (v := .int (nI (k + 1))) (ty := .int) (C := RX4) (T := TX4) (N := 7) hx hb hts inX4 tyX4 tyX4_ok nmX4 hown hK hP hD hS 0 rfl rfl 4 (by decide) fl25 (fun _ h9 => h9) rfl (by decide +kernel) (rfl) (rfl) (Nat.le_of_ble_eq_true rfl) dX4_step_33 (fun H locs hP hD hS => ?_)
          have hP : va_P D vwCl [ob aR 4 [.ref aTX, .int (nI n), .int kd, .int st, .int (nI (k + 1)), .int fa, .int fp], ar cI aTX 300 fTX] H := hP
          have hD : va_D A [ob aR 4 [.ref aTX, .int (nI n), .int kd, .int st, .int (nI (k + 1)), .int fa, .int fp], ar cI aTX 300 fTX] := hD
          refine lv_goto (tgt := 0) hx hb dX4_step_36 (by decide) ?_
          exact ih_0 (k + 1) (by omega) (by omega) (hr.trans (runT_in (Nat.lt_of_not_le k_8) (by rw [← ht k (Nat.lt_of_not_le k_8), ← hq_20]; exact c_23))) _ _ (hP) (hD) hS ls (lv_sub hl [0] rfl)
  exact L_0 ((n - pp) + 1) pp (Nat.lt_succ_self _) (by omega) (rfl) _ _ (hP) (hD) hS ls (lv_sub hl [0] rfl)
abbrev r_c_X4_numberAtHand : Room := { frames := 0, cells := 0, slots := 0, locals := 0 }
set_option maxHeartbeats 4000000 in
set_option maxRecDepth 100000 in
theorem c_X4_numberAtHand (l : Launch) (D : va_G) (cI cZ : ClassId) (aR : Nat) (aTX : Nat) (fTX : Nat → Int32) (t : Nat → Int32) (n : Nat) (pp : Nat) (fa : Int32) (fp : Int32) (hn : n ≤ 300) (hp : pp ≤ n) (ht : ∀ j, j < n → fTX j = t j) (hk2 : tKd t n pp = 2) : MI l yX4_numberAtHand wsX4_numberAtHand r_c_X4_numberAtHand D cI cZ [.ref aR] [ob aR 4 [.ref aTX, .int (nI n), .int (tKd t n pp), .int (nI (tSt t n pp)), .int (nI (tNx t n pp)), .int fa, .int fp], ar cI aTX 300 fTX] (fun (r : Int32) (u : Unit) => r = nI (numT t n pp)) (fun (u : Unit) => [ob aR 4 [.ref aTX, .int (nI n), .int (tKd t n pp), .int (nI (tSt t n pp)), .int (nI (tNx t n pp)), .int fa, .int fp], ar cI aTX 300 fTX]) 0 0 := by
  refine MI.of (cc := cX4_numberAtHand) (maxL := 3) (by decide) rfl (Nat.le_of_ble_eq_true rfl) ?_
  intro p e s m below meth c A Q hx hb hml hown hts hN hK hA ret hP hD hS ls hl
  have hown : s.vm.findClass RX4 = some m.cls := hown
  have inX4 : ∀ w ∈ wsX40, w ∈ wsX4_numberAtHand := by decide +kernel
  have fl9 := hts (.fieldLink RX4 9 "AdvanceBook$Reader" "text" "[I") (by decide +kernel)
  have fl22 := hts (.fieldLink RX4 22 "AdvanceBook$Reader" "start" "I") (by decide +kernel)
  have fl25 := hts (.fieldLink RX4 25 "AdvanceBook$Reader" "next" "I") (by decide +kernel)
  have hP : va_P D vwCl [ob aR 4 [.ref aTX, .int (nI n), .int (tKd t n pp), .int (nI (tSt t n pp)), .int (nI (tNx t n pp)), .int fa, .int fp], ar cI aTX 300 fTX] s.heap := hP
  have hD : va_D A [ob aR 4 [.ref aTX, .int (nI n), .int (tKd t n pp), .int (nI (tSt t n pp)), .int (nI (tNx t n pp)), .int fa, .int fp], ar cI aTX 300 fTX] := hD
  have hl : lv_has ls 3 [(0, .ref aR)] := hl
  refine lv_iconst (v := 0) hx hb dX4_numberAtHand_0 (by decide) ?_
  refine lv_istore_n (lv' := [(1, .int 0), (0, .ref aR)]) hx hb dX4_numberAtHand_1 rfl hl (by decide) rfl (fun ls hl => ?_)
  refine lv_aload_n hx hb dX4_numberAtHand_2 rfl (lv_at hl 1 rfl) ?_
  refine va_get (D := D) (ci := 4) (v := .int (nI (tSt t n pp))) (C := RX4) (T := TX4) (N := 7) hx hb hts inX4 hown hK hP 0 rfl rfl 3 (by decide) fl22 (fun _ h9 => h9) rfl dX4_numberAtHand_3 ?_
  refine lv_istore_n (lv' := [(2, .int (nI (tSt t n pp))), (1, .int 0), (0, .ref aR)]) hx hb dX4_numberAtHand_6 rfl hl (by decide) rfl (fun ls hl => ?_)
  have L_7 : ∀ (n_7 : Nat) (k : Nat) (v : Nat), (tNx t n pp - k < n_7) → (tSt t n pp ≤ k) → (k ≤ tNx t n pp) → (v = numG 999 t (tSt t n pp) (k - tSt t n pp)) → (v ≤ 9999) → ∀ (H : Heap) (locs : List Loc), va_P D vwCl [ob aR 4 [.ref aTX, .int (nI n), .int (tKd t n pp), .int (nI (tSt t n pp)), .int (nI (tNx t n pp)), .int fa, .int fp], ar cI aTX 300 fTX] H → va_D A [ob aR 4 [.ref aTX, .int (nI n), .int (tKd t n pp), .int (nI (tSt t n pp)), .int (nI (tNx t n pp)), .int fa, .int fp], ar cI aTX 300 fTX] → va_S A s.heap H locs → ∀ ls : Array Slot, lv_has ls 3 [(0, .ref aR), (1, .int (nI v)), (2, .int (nI k))] → W p l e r_c_X4_numberAtHand s m (([.ref aR] : List Value).toArray) below meth c H locs 0 0 Q (F0 m 7 ls []) := by
    intro n_7
    induction n_7 with
    | zero => intro k v hfu; exact absurd hfu (Nat.not_lt_zero _)
    | succ n_7 ih_7 =>
      intro k v hfu_7 h1 h2 hv hv9 H locs hP hD hS ls hl
      have hnn := tNx_le (t := t) hp
      refine lv_iload_n hx hb dX4_numberAtHand_7 rfl (lv_at hl 2 rfl) ?_
      refine lv_aload_n hx hb dX4_numberAtHand_8 rfl (lv_at hl 0 rfl) ?_
      refine va_get (D := D) (ci := 4) (v := .int (nI (tNx t n pp))) (C := RX4) (T := TX4) (N := 7) hx hb hts inX4 hown hK hP 0 rfl rfl 4 (by decide) fl25 (fun _ h9 => h9) rfl dX4_numberAtHand_9 ?_
      refine lv_icmp_ge (tgt := 43) hx hb dX4_numberAtHand_12 (by decide) (fun c_12 => ?_) (fun c_12 => ?_)
      · skip
        have k_12 : (tNx t n pp) ≤ k := (nI_leI (a := (tNx t n pp)) (b := k) (by omega) (by omega)).mp c_12
        refine lv_iload_n hx hb dX4_numberAtHand_43 rfl (lv_at hl 1 rfl) ?_
        exact ret (nI v) () _ _ _ _ dX4_numberAtHand_44 (by have ek : k = tNx t n pp := (by omega); rw [hv, ek]; rfl) (hP) (hD) hS
      · skip
        have k_12 : ¬ (tNx t n pp) ≤ k := fun h9 => c_12 ((nI_leI (a := (tNx t n pp)) (b := k) (by omega) (by omega)).mpr h9)
        have hkk : kindS (t k) = 2 := (by rw [← hk2]; exact tok_kind (Or.inr hk2) h1 (by omega))
        refine lv_iload_n hx hb dX4_numberAtHand_15 rfl (lv_at hl 1 rfl) ?_
        refine lv_sipush (v := 999) hx hb dX4_numberAtHand_16 (by decide) ?_
        refine lv_icmp_gt (tgt := 37) hx hb dX4_numberAtHand_19 (by decide) (fun c_19 => ?_) (fun c_19 => ?_)
        · skip
          have k_19 : 999 < v := (nI_ltI (a := 999) (b := v) (by omega) (by omega)).mp c_19
          refine lv_iinc (v := (nI (k + 1))) (lv' := [(2, .int (nI (k + 1))), (0, .ref aR), (1, .int (nI v))]) hx hb dX4_numberAtHand_37 hl (k := 2) rfl (nI_inc k 1 (by decide)) (by decide) rfl (fun ls hl => ?_)
          refine lv_goto (tgt := 7) hx hb dX4_numberAtHand_40 (by decide) ?_
          have hs9 : k + 1 - tSt t n pp = (k - tSt t n pp) + 1 := (by omega)
          exact ih_7 (k + 1) v (by omega) (by omega) (by omega) (by rw [hs9, numG_no (by rw [← hv]; exact k_19)]; exact hv) (by omega) _ _ (hP) (hD) hS ls (lv_sub hl [1, 2, 0] rfl)
        · skip
          have k_19 : ¬ 999 < v := fun h9 => c_19 ((nI_ltI (a := 999) (b := v) (by omega) (by omega)).mpr h9)
          refine lv_iload_n hx hb dX4_numberAtHand_22 rfl (lv_at hl 1 rfl) ?_
          refine lv_bipush (v := 10) hx hb dX4_numberAtHand_23 (by decide) ?_
          refine m_imulN (a := v) (b := 10) hx hb dX4_numberAtHand_25 ?_
          refine lv_aload_n hx hb dX4_numberAtHand_26 rfl (lv_at hl 0 rfl) ?_
          refine va_get (D := D) (ci := 4) (v := .ref aTX) (C := RX4) (T := TX4) (N := 7) hx hb hts inX4 hown hK hP 0 rfl rfl 0 (by decide) fl9 (fun _ h9 => h9) rfl dX4_numberAtHand_27 ?_
          refine lv_iload_n hx hb dX4_numberAtHand_30 rfl (lv_at hl 2 rfl) ?_
          refine m_iald (k := k) hx hb hK hP 1 0 rfl rfl (by omega) (by decide) dX4_numberAtHand_31 ?_
          refine lv_iadd hx hb dX4_numberAtHand_32 ?_
          refine lv_bipush (v := 48) hx hb dX4_numberAtHand_33 (by decide) ?_
          refine lv_isub hx hb dX4_numberAtHand_35 ?_
          have e36 : (nI (v * 10) + (fTX k)) - 48 = nI (v * 10 + dig (t k)) := (by rw [ht k (by omega)]; exact num_step hkk)
          rw [e36]
          refine lv_istore_n (lv' := [(1, .int (nI (v * 10 + dig (t k)))), (0, .ref aR), (2, .int (nI k))]) hx hb dX4_numberAtHand_36 rfl hl (by decide) rfl (fun ls hl => ?_)
          refine lv_iinc (v := (nI (k + 1))) (lv' := [(2, .int (nI (k + 1))), (1, .int (nI (v * 10 + dig (t k)))), (0, .ref aR)]) hx hb dX4_numberAtHand_37 hl (k := 2) rfl (nI_inc k 1 (by decide)) (by decide) rfl (fun ls hl => ?_)
          refine lv_goto (tgt := 7) hx hb dX4_numberAtHand_40 (by decide) ?_
          have hs9 : k + 1 - tSt t n pp = (k - tSt t n pp) + 1 := (by omega)
          have hd9 := dig_le hkk
          have hs8 : tSt t n pp + (k - tSt t n pp) = k := (by omega)
          exact ih_7 (k + 1) (v * 10 + dig (t k)) (by omega) (by omega) (by omega) (by rw [hs9, numG_up (by rw [← hv]; omega), ← hv, hs8]) (by omega) _ _ (hP) (hD) hS ls (lv_sub hl [2, 1, 0] rfl)
  have hge := tNx_ge (t := t) (n := n) (q := pp)
  exact L_7 ((tNx t n pp - (tSt t n pp)) + 1) (tSt t n pp) 0 (Nat.lt_succ_self _) (by omega) (by omega) (by rw [Nat.sub_self]; rfl) (by omega) _ _ (hP) (hD) hS ls (lv_sub hl [2, 1, 0] rfl)
abbrev r_c_X4_blame : Room := { frames := 0, cells := 0, slots := 0, locals := 0 }
set_option maxHeartbeats 4000000 in
set_option maxRecDepth 100000 in
theorem c_X4_blame (l : Launch) (D : va_G) (cI cZ : ClassId) (aR : Nat) (aTX : Nat) (n : Nat) (kd : Int32) (st : Int32) (nx : Int32) (fa : Int32) (fp : Int32) (x : Int32)  : MV l yX4_blame wsX4_blame r_c_X4_blame D cI cZ [.ref aR, .int x] [ob aR 4 [.ref aTX, .int (nI n), .int kd, .int st, .int nx, .int fa, .int fp]] (fun (u : Int32 × Int32) => (u.1, u.2) = blF (fa, fp) x st) (fun (u : Int32 × Int32) => [ob aR 4 [.ref aTX, .int (nI n), .int kd, .int st, .int nx, .int u.1, .int u.2]]) 0 0 := by
  refine MV.of (cc := cX4_blame) (maxL := 2) (by decide) rfl (Nat.le_of_ble_eq_true rfl) ?_
  intro p e s m below meth c A Q hx hb hml hown hts hN hK hA ret hP hD hS ls hl hmn
  have hown : s.vm.findClass RX4 = some m.cls := hown
  have inX4 : ∀ w ∈ wsX40, w ∈ wsX4_blame := by decide +kernel
  have fl22 := hts (.fieldLink RX4 22 "AdvanceBook$Reader" "start" "I") (by decide +kernel)
  have fl28 := hts (.fieldLink RX4 28 "AdvanceBook$Reader" "fault" "I") (by decide +kernel)
  have fl31 := hts (.fieldLink RX4 31 "AdvanceBook$Reader" "faultPlace" "I") (by decide +kernel)
  have hP : va_P D vwCl [ob aR 4 [.ref aTX, .int (nI n), .int kd, .int st, .int nx, .int fa, .int fp]] s.heap := hP
  have hD : va_D A [ob aR 4 [.ref aTX, .int (nI n), .int kd, .int st, .int nx, .int fa, .int fp]] := hD
  have hl : lv_has ls 2 [(0, .ref aR), (1, .int x)] := hl
  refine lv_aload_n hx hb dX4_blame_0 rfl (lv_at hl 0 rfl) ?_
  refine va_get (D := D) (ci := 4) (v := .int fa) (C := RX4) (T := TX4) (N := 7) hx hb hts inX4 hown hK hP 0 rfl rfl 5 (by decide) fl28 (fun _ h9 => h9) rfl dX4_blame_1 ?_
  refine lv_if_ne (tgt := 20) hx hb dX4_blame_4 (by decide) (fun c_4 => ?_) (fun c_4 => ?_)
  · skip
    exact ret (fa, fp) _ _ _ _ dX4_blame_20 (by unfold blF; grind) (hP) (hD) hS
  · skip
    refine lv_aload_n hx hb dX4_blame_7 rfl (lv_at hl 0 rfl) ?_
    refine lv_iload_n hx hb dX4_blame_8 rfl (lv_at hl 1 rfl) ?_
    refine va_put (D := D) (ci := 4) (v := .int x) (ty := .int) (C := RX4) (T := TX4) (N := 7) hx hb hts inX4 tyX4 tyX4_ok nmX4 hown hK hP hD hS 0 rfl rfl 5 (by decide) fl28 (fun _ h9 => h9) rfl (by decide +kernel) (rfl) (rfl) (Nat.le_of_ble_eq_true rfl) dX4_blame_9 (fun H locs hP hD hS => ?_)
    have hP : va_P D vwCl [ob aR 4 [.ref aTX, .int (nI n), .int kd, .int st, .int nx, .int x, .int fp]] H := hP
    have hD : va_D A [ob aR 4 [.ref aTX, .int (nI n), .int kd, .int st, .int nx, .int x, .int fp]] := hD
    refine lv_aload_n hx hb dX4_blame_12 rfl (lv_at hl 0 rfl) ?_
    refine lv_aload_n hx hb dX4_blame_13 rfl (lv_at hl 0 rfl) ?_
    refine va_get (D := D) (ci := 4) (v := .int st) (C := RX4) (T := TX4) (N := 7) hx hb hts inX4 hown hK hP 0 rfl rfl 3 (by decide) fl22 (fun _ h9 => h9) rfl dX4_blame_14 ?_
    refine va_put (D := D) (ci := 4) (v := .int st) (ty := .int) (C := RX4) (T := TX4) (N := 7) hx hb hts inX4 tyX4 tyX4_ok nmX4 hown hK hP hD hS 0 rfl rfl 6 (by decide) fl31 (fun _ h9 => h9) rfl (by decide +kernel) (rfl) (rfl) (Nat.le_of_ble_eq_true rfl) dX4_blame_17 (fun H locs hP hD hS => ?_)
    have hP : va_P D vwCl [ob aR 4 [.ref aTX, .int (nI n), .int kd, .int st, .int nx, .int x, .int st]] H := hP
    have hD : va_D A [ob aR 4 [.ref aTX, .int (nI n), .int kd, .int st, .int nx, .int x, .int st]] := hD
    exact ret (x, st) _ _ _ _ dX4_blame_20 (by unfold blF; grind) (hP) (hD) hS
abbrev r_c_X4_blameRankOf : Room := { frames := 1, cells := 0, slots := 0, locals := 22 }
set_option maxHeartbeats 4000000 in
set_option maxRecDepth 100000 in
theorem c_X4_blameRankOf (l : Launch) (D : va_G) (cI cZ : ClassId) (aR : Nat) (aTX : Nat) (aTO : Nat) (fTX : Nat → Int32) (t : Nat → Int32) (n : Nat) (pp : Nat) (fTO : Nat → Int32) (fa : Int32) (fp : Int32) (hn : n ≤ 300) (hp : pp ≤ n) (ht : ∀ j, j < n → fTX j = t j) : MV l yX4_blameRankOf wsX4_blameRankOf r_c_X4_blameRankOf D cI cZ [.ref aR, .ref aTO] [ob aR 4 [.ref aTX, .int (nI n), .int (tKd t n pp), .int (nI (tSt t n pp)), .int (nI (tNx t n pp)), .int fa, .int fp], ar cI aTX 300 fTX, ar cI aTO 4 fTO] (fun (u : Int32 × Int32) => (u.1, u.2) = rkB t n pp fTO (fa, fp)) (fun (u : Int32 × Int32) => [ob aR 4 [.ref aTX, .int (nI n), .int (tKd t n pp), .int (nI (tSt t n pp)), .int (nI (tNx t n pp)), .int u.1, .int u.2], ar cI aTX 300 fTX, ar cI aTO 4 fTO]) 0 0 := by
  refine MV.of (cc := cX4_blameRankOf) (maxL := 3) (by decide) rfl (Nat.le_of_ble_eq_true rfl) ?_
  intro p e s m below meth c A Q hx hb hml hown hts hN hK hA ret hP hD hS ls hl hmn
  have hown : s.vm.findClass RX4 = some m.cls := hown
  have inX4 : ∀ w ∈ wsX40, w ∈ wsX4_blameRankOf := by decide +kernel
  have fl19 := hts (.fieldLink RX4 19 "AdvanceBook$Reader" "kind" "I") (by decide +kernel)
  have hP : va_P D vwCl [ob aR 4 [.ref aTX, .int (nI n), .int (tKd t n pp), .int (nI (tSt t n pp)), .int (nI (tNx t n pp)), .int fa, .int fp], ar cI aTX 300 fTX, ar cI aTO 4 fTO] s.heap := hP
  have hD : va_D A [ob aR 4 [.ref aTX, .int (nI n), .int (tKd t n pp), .int (nI (tSt t n pp)), .int (nI (tNx t n pp)), .int fa, .int fp], ar cI aTX 300 fTX, ar cI aTO 4 fTO] := hD
  have hl : lv_has ls 3 [(0, .ref aR), (1, .ref aTO)] := hl
  refine lv_aload_n hx hb dX4_blameRankOf_0 rfl (lv_at hl 0 rfl) ?_
  refine va_get (D := D) (ci := 4) (v := .int (tKd t n pp)) (C := RX4) (T := TX4) (N := 7) hx hb hts inX4 hown hK hP 0 rfl rfl 2 (by decide) fl19 (fun _ h9 => h9) rfl dX4_blameRankOf_1 ?_
  refine lv_iconst (v := 2) hx hb dX4_blameRankOf_4 (by decide) ?_
  refine lv_icmp_ne (tgt := 15) hx hb dX4_blameRankOf_5 (by decide) (fun c_5 => ?_) (fun c_5 => ?_)
  · skip
    refine lv_iconst (v := (-1)) hx hb dX4_blameRankOf_15 (by decide) ?_
    refine lv_istore_n (lv' := [(2, .int (-1)), (0, .ref aR), (1, .ref aTO)]) hx hb dX4_blameRankOf_16 rfl hl (by decide) rfl (fun ls hl => ?_)
    refine lv_iload_n hx hb dX4_blameRankOf_17 rfl (lv_at hl 0 rfl) ?_
    refine lv_if_lt (tgt := 39) hx hb dX4_blameRankOf_18 (by decide) (fun c_18 => ?_) (fun c_18 => ?_)
    · skip
      exact ret (fa, fp) _ _ _ _ dX4_blameRankOf_39 (by unfold rkB; grind) (hP) (hD) hS
    · skip
      exact absurd c_18 (by decide)
  · skip
    refine lv_aload_n hx hb dX4_blameRankOf_8 rfl (lv_at hl 0 rfl) ?_
    refine m_cVi (As := []) (rest := []) (wr := [ar cI aTO 4 fTO]) ⟨hx, hb, hml, hown, hts⟩ (c_X4_numberAtHand l D cI cZ aR aTX fTX t n pp fa fp (by first | assumption | omega) (by first | assumption | omega) (by first | assumption | omega) (by first | assumption | omega)) (cwV 0 hts gX4_blameRankOf_X4_numberAtHand rfl rfl rfl (by decide +kernel) ⟨Nat.le_of_ble_eq_true rfl, Nat.le_of_ble_eq_true rfl⟩) hN hK hP hD hS hA [0, 1] [2] rfl rfl (by decide) (by decide) (by decide) 0 (ci := 4) rfl rfl rfl rfl hl.1 rfl (Nat.le_of_ble_eq_true rfl) dX4_blameRankOf_9 ⟨Nat.le_of_ble_eq_true rfl, Nat.le_of_ble_eq_true rfl⟩ (fun r_9 u_9 H locs hq_9 hP hD hS => ?_)
    replace hq_9 : r_9 = nI (numT t n pp) := hq_9
    have hP : va_P D vwCl [ar cI aTO 4 fTO, ob aR 4 [.ref aTX, .int (nI n), .int (tKd t n pp), .int (nI (tSt t n pp)), .int (nI (tNx t n pp)), .int fa, .int fp], ar cI aTX 300 fTX] H := hP
    have hD : va_D A [ar cI aTO 4 fTO, ob aR 4 [.ref aTX, .int (nI n), .int (tKd t n pp), .int (nI (tSt t n pp)), .int (nI (tNx t n pp)), .int fa, .int fp], ar cI aTX 300 fTX] := hD
    subst hq_9
    have hnb := numT_le (t := t) (n := n) (q := pp) (by assumption)
    refine lv_goto (tgt := 16) hx hb dX4_blameRankOf_12 (by decide) ?_
    refine lv_istore_n (lv' := [(2, .int (nI (numT t n pp))), (0, .ref aR), (1, .ref aTO)]) hx hb dX4_blameRankOf_16 rfl hl (by decide) rfl (fun ls hl => ?_)
    refine lv_iload_n hx hb dX4_blameRankOf_17 rfl (lv_at hl 0 rfl) ?_
    refine lv_if_lt (tgt := 39) hx hb dX4_blameRankOf_18 (by decide) (fun c_18 => ?_) (fun c_18 => ?_)
    · skip
      have k_18 : (numT t n pp) < 0 := (nI_ltI (a := (numT t n pp)) (b := 0) (by omega) (by omega)).mp c_18
      exact ret (fa, fp) _ _ _ _ dX4_blameRankOf_39 (by unfold rkB; grind) (hP.sub [1, 2, 0] rfl) (hD.sub [1, 2, 0] (by decide) rfl) hS
    · skip
      have k_18 : ¬ (numT t n pp) < 0 := fun h9 => c_18 ((nI_ltI (a := (numT t n pp)) (b := 0) (by omega) (by omega)).mpr h9)
      refine lv_iload_n hx hb dX4_blameRankOf_21 rfl (lv_at hl 0 rfl) ?_
      refine lv_aload_n hx hb dX4_blameRankOf_22 rfl (lv_at hl 2 rfl) ?_
      refine va_alen (v := nI 4) hx hb hK hP 0 0 rfl rfl rfl dX4_blameRankOf_23 ?_
      refine lv_icmp_ge (tgt := 39) hx hb dX4_blameRankOf_24 (by decide) (fun c_24 => ?_) (fun c_24 => ?_)
      · skip
        have k_24 : 4 ≤ (numT t n pp) := (nI_leI (a := 4) (b := (numT t n pp)) (by omega) (by omega)).mp c_24
        exact ret (fa, fp) _ _ _ _ dX4_blameRankOf_39 (by unfold rkB; grind) (hP.sub [1, 2, 0] rfl) (hD.sub [1, 2, 0] (by decide) rfl) hS
      · skip
        have k_24 : ¬ 4 ≤ (numT t n pp) := fun h9 => c_24 ((nI_leI (a := 4) (b := (numT t n pp)) (by omega) (by omega)).mpr h9)
        refine lv_aload_n hx hb dX4_blameRankOf_27 rfl (lv_at hl 2 rfl) ?_
        refine lv_iload_n hx hb dX4_blameRankOf_28 rfl (lv_at hl 0 rfl) ?_
        refine m_iald (k := (numT t n pp)) hx hb hK hP 0 0 rfl rfl (by omega) (by decide) dX4_blameRankOf_29 ?_
        refine lv_iconst (v := (-1)) hx hb dX4_blameRankOf_30 (by decide) ?_
        refine lv_icmp_eq (tgt := 39) hx hb dX4_blameRankOf_31 (by decide) (fun c_31 => ?_) (fun c_31 => ?_)
        · skip
          exact ret (fa, fp) _ _ _ _ dX4_blameRankOf_39 (by unfold rkB; grind) (hP.sub [1, 2, 0] rfl) (hD.sub [1, 2, 0] (by decide) rfl) hS
        · skip
          refine lv_aload_n hx hb dX4_blameRankOf_34 rfl (lv_at hl 1 rfl) ?_
          refine lv_iconst (v := 3) hx hb dX4_blameRankOf_35 (by decide) ?_
          refine m_cVv (As := [.int 3]) (rest := []) (wr := [ar cI aTO 4 fTO, ar cI aTX 300 fTX]) ⟨hx, hb, hml, hown, hts⟩ (c_X4_blame l D cI cZ aR aTX n (tKd t n pp) (nI (tSt t n pp)) (nI (tNx t n pp)) fa fp 3 ) (cwV 1 hts gX4_blameRankOf_X4_blame rfl rfl rfl (by decide +kernel) ⟨Nat.le_of_ble_eq_true rfl, Nat.le_of_ble_eq_true rfl⟩) hN hK hP hD hS hA [1] [0, 2] rfl rfl (by decide) (by decide) (by decide) 0 (ci := 4) rfl rfl rfl rfl hl.1 rfl (Nat.le_of_ble_eq_true rfl) dX4_blameRankOf_36 ⟨Nat.le_of_ble_eq_true rfl, Nat.le_of_ble_eq_true rfl⟩ (fun u_36 H locs hq_36 hP hD hS => ?_)
          obtain ⟨f2_36, p2_36⟩ := u_36
          replace hq_36 : (f2_36, p2_36) = blF (fa, fp) 3 (nI (tSt t n pp)) := hq_36
          have hP : va_P D vwCl [ar cI aTO 4 fTO, ar cI aTX 300 fTX, ob aR 4 [.ref aTX, .int (nI n), .int (tKd t n pp), .int (nI (tSt t n pp)), .int (nI (tNx t n pp)), .int f2_36, .int p2_36]] H := hP
          have hD : va_D A [ar cI aTO 4 fTO, ar cI aTX 300 fTX, ob aR 4 [.ref aTX, .int (nI n), .int (tKd t n pp), .int (nI (tSt t n pp)), .int (nI (tNx t n pp)), .int f2_36, .int p2_36]] := hD
          exact ret (f2_36, p2_36) _ _ _ _ dX4_blameRankOf_39 (by unfold rkB; grind) (hP.sub [2, 1, 0] rfl) (hD.sub [2, 1, 0] (by decide) rfl) hS
abbrev r_c_X4_readNumber : Room := { frames := 2, cells := 0, slots := 0, locals := 40 }
set_option maxHeartbeats 4000000 in
set_option maxRecDepth 100000 in
theorem c_X4_readNumber (l : Launch) (D : va_G) (cI cZ : ClassId) (aR : Nat) (aTX : Nat) (fTX : Nat → Int32) (t : Nat → Int32) (n : Nat) (pp : Nat) (mx : Nat) (fa : Int32) (fp : Int32) (hn : n ≤ 300) (hp : pp ≤ n) (ht : ∀ j, j < n → fTX j = t j) (hmx : mx ≤ 999) : MI l yX4_readNumber wsX4_readNumber r_c_X4_readNumber D cI cZ [.ref aR, .int (nI mx)] [ob aR 4 [.ref aTX, .int (nI n), .int (tKd t n pp), .int (nI (tSt t n pp)), .int (nI (tNx t n pp)), .int fa, .int fp], ar cI aTX 300 fTX] (fun (r : Int32) (u : Int32 × Int32) => r = nI (nuV t n pp mx) ∧ (u.1, u.2) = nuB t n pp mx (fa, fp)) (fun (u : Int32 × Int32) => [ob aR 4 [.ref aTX, .int (nI n), .int (tKd t n (tNx t n pp)), .int (nI (tSt t n (tNx t n pp))), .int (nI (tNx t n (tNx t n pp))), .int u.1, .int u.2], ar cI aTX 300 fTX]) 0 0 := by
  refine MI.of (cc := cX4_readNumber) (maxL := 3) (by decide) rfl (Nat.le_of_ble_eq_true rfl) ?_
  intro p e s m below meth c A Q hx hb hml hown hts hN hK hA ret hP hD hS ls hl
  have hown : s.vm.findClass RX4 = some m.cls := hown
  have inX4 : ∀ w ∈ wsX40, w ∈ wsX4_readNumber := by decide +kernel
  have fl19 := hts (.fieldLink RX4 19 "AdvanceBook$Reader" "kind" "I") (by decide +kernel)
  have hP : va_P D vwCl [ob aR 4 [.ref aTX, .int (nI n), .int (tKd t n pp), .int (nI (tSt t n pp)), .int (nI (tNx t n pp)), .int fa, .int fp], ar cI aTX 300 fTX] s.heap := hP
  have hD : va_D A [ob aR 4 [.ref aTX, .int (nI n), .int (tKd t n pp), .int (nI (tSt t n pp)), .int (nI (tNx t n pp)), .int fa, .int fp], ar cI aTX 300 fTX] := hD
  have hl : lv_has ls 3 [(0, .ref aR), (1, .int (nI mx))] := hl
  refine lv_aload_n hx hb dX4_readNumber_0 rfl (lv_at hl 0 rfl) ?_
  refine va_get (D := D) (ci := 4) (v := .int (tKd t n pp)) (C := RX4) (T := TX4) (N := 7) hx hb hts inX4 hown hK hP 0 rfl rfl 2 (by decide) fl19 (fun _ h9 => h9) rfl dX4_readNumber_1 ?_
  refine lv_iconst (v := 2) hx hb dX4_readNumber_4 (by decide) ?_
  refine lv_icmp_ne (tgt := 15) hx hb dX4_readNumber_5 (by decide) (fun c_5 => ?_) (fun c_5 => ?_)
  · skip
    refine lv_iconst (v := 0) hx hb dX4_readNumber_15 (by decide) ?_
    refine lv_istore_n (lv' := [(2, .int 0), (0, .ref aR), (1, .int (nI mx))]) hx hb dX4_readNumber_16 rfl hl (by decide) rfl (fun ls hl => ?_)
    refine lv_aload_n hx hb dX4_readNumber_17 rfl (lv_at hl 1 rfl) ?_
    refine va_get (D := D) (ci := 4) (v := .int (tKd t n pp)) (C := RX4) (T := TX4) (N := 7) hx hb hts inX4 hown hK hP 0 rfl rfl 2 (by decide) fl19 (fun _ h9 => h9) rfl dX4_readNumber_18 ?_
    refine lv_iconst (v := 2) hx hb dX4_readNumber_21 (by decide) ?_
    refine lv_icmp_eq (tgt := 33) hx hb dX4_readNumber_22 (by decide) (fun c_22 => ?_) (fun c_22 => ?_)
    · skip
      refine lv_iload_n hx hb dX4_readNumber_33 rfl (lv_at hl 0 rfl) ?_
      refine lv_iload_n hx hb dX4_readNumber_34 rfl (lv_at hl 2 rfl) ?_
      refine lv_icmp_le (tgt := 45) hx hb dX4_readNumber_35 (by decide) (fun c_35 => ?_) (fun c_35 => ?_)
      · skip
        have k_35 : 0 ≤ mx := (nI_leI (a := 0) (b := mx) (by omega) (by omega)).mp c_35
        refine lv_aload_n hx hb dX4_readNumber_45 rfl (lv_at hl 1 rfl) ?_
        refine m_cVv (As := []) (rest := []) (wr := []) ⟨hx, hb, hml, hown, hts⟩ (c_X4_step l D cI cZ aR aTX fTX t n (tNx t n pp) (tKd t n pp) (nI (tSt t n pp)) fa fp (by first | assumption | omega) (tNx_le (t := t) (by assumption)) (by first | assumption | omega)) (cwV 0 hts gX4_readNumber_X4_step rfl rfl rfl (by decide +kernel) ⟨Nat.le_of_ble_eq_true rfl, Nat.le_of_ble_eq_true rfl⟩) hN hK hP hD hS hA [0, 1] [] rfl rfl (by decide) (by decide) (by decide) 0 (ci := 4) rfl rfl rfl rfl hl.1 rfl (Nat.le_of_ble_eq_true rfl) dX4_readNumber_46 ⟨Nat.le_of_ble_eq_true rfl, Nat.le_of_ble_eq_true rfl⟩ (fun u_46 H locs hq_46 hP hD hS => ?_)
        obtain ⟨k2_46, s2_46, n2_46⟩ := u_46
        replace hq_46 : k2_46 = tKd t n (tNx t n pp) ∧ s2_46 = tSt t n (tNx t n pp) ∧ n2_46 = tNx t n (tNx t n pp) := hq_46
        have hP : va_P D vwCl [ob aR 4 [.ref aTX, .int (nI n), .int k2_46, .int (nI s2_46), .int (nI n2_46), .int fa, .int fp], ar cI aTX 300 fTX] H := hP
        have hD : va_D A [ob aR 4 [.ref aTX, .int (nI n), .int k2_46, .int (nI s2_46), .int (nI n2_46), .int fa, .int fp], ar cI aTX 300 fTX] := hD
        obtain ⟨rfl, rfl, rfl⟩ := hq_46
        refine lv_iload_n hx hb dX4_readNumber_49 rfl (lv_at hl 0 rfl) ?_
        exact ret 0 (fa, fp) _ _ _ _ dX4_readNumber_50 (by first | exact nu_1 c_22 hq_27 | exact nu_2 c_22 k_35 hq_40 | exact nu_3 c_22 k_35 | exact absurd c_22 c_5 | exact absurd c_5 c_22) (hP) (hD) hS
      · skip
        have k_35 : ¬ 0 ≤ mx := fun h9 => c_35 ((nI_leI (a := 0) (b := mx) (by omega) (by omega)).mpr h9)
        refine lv_aload_n hx hb dX4_readNumber_38 rfl (lv_at hl 1 rfl) ?_
        refine lv_iconst (v := 2) hx hb dX4_readNumber_39 (by decide) ?_
        refine m_cVv (As := [.int 2]) (rest := []) (wr := [ar cI aTX 300 fTX]) ⟨hx, hb, hml, hown, hts⟩ (c_X4_blame l D cI cZ aR aTX n (tKd t n pp) (nI (tSt t n pp)) (nI (tNx t n pp)) fa fp 2 ) (cwV 1 hts gX4_readNumber_X4_blame rfl rfl rfl (by decide +kernel) ⟨Nat.le_of_ble_eq_true rfl, Nat.le_of_ble_eq_true rfl⟩) hN hK hP hD hS hA [0] [1] rfl rfl (by decide) (by decide) (by decide) 0 (ci := 4) rfl rfl rfl rfl hl.1 rfl (Nat.le_of_ble_eq_true rfl) dX4_readNumber_40 ⟨Nat.le_of_ble_eq_true rfl, Nat.le_of_ble_eq_true rfl⟩ (fun u_40 H locs hq_40 hP hD hS => ?_)
        obtain ⟨f2_40, p2_40⟩ := u_40
        replace hq_40 : (f2_40, p2_40) = blF (fa, fp) 2 (nI (tSt t n pp)) := hq_40
        have hP : va_P D vwCl [ar cI aTX 300 fTX, ob aR 4 [.ref aTX, .int (nI n), .int (tKd t n pp), .int (nI (tSt t n pp)), .int (nI (tNx t n pp)), .int f2_40, .int p2_40]] H := hP
        have hD : va_D A [ar cI aTX 300 fTX, ob aR 4 [.ref aTX, .int (nI n), .int (tKd t n pp), .int (nI (tSt t n pp)), .int (nI (tNx t n pp)), .int f2_40, .int p2_40]] := hD
        refine lv_iconst (v := 0) hx hb dX4_readNumber_43 (by decide) ?_
        refine lv_istore_n (lv' := [(2, .int 0), (0, .ref aR), (1, .int (nI mx))]) hx hb dX4_readNumber_44 rfl hl (by decide) rfl (fun ls hl => ?_)
        refine lv_aload_n hx hb dX4_readNumber_45 rfl (lv_at hl 1 rfl) ?_
        refine m_cVv (As := []) (rest := []) (wr := []) ⟨hx, hb, hml, hown, hts⟩ (c_X4_step l D cI cZ aR aTX fTX t n (tNx t n pp) (tKd t n pp) (nI (tSt t n pp)) f2_40 p2_40 (by first | assumption | omega) (tNx_le (t := t) (by assumption)) (by first | assumption | omega)) (cwV 0 hts gX4_readNumber_X4_step rfl rfl rfl (by decide +kernel) ⟨Nat.le_of_ble_eq_true rfl, Nat.le_of_ble_eq_true rfl⟩) hN hK hP hD hS hA [1, 0] [] rfl rfl (by decide) (by decide) (by decide) 0 (ci := 4) rfl rfl rfl rfl hl.1 rfl (Nat.le_of_ble_eq_true rfl) dX4_readNumber_46 ⟨Nat.le_of_ble_eq_true rfl, Nat.le_of_ble_eq_true rfl⟩ (fun u_46 H locs hq_46 hP hD hS => ?_)
        obtain ⟨k2_46, s2_46, n2_46⟩ := u_46
        replace hq_46 : k2_46 = tKd t n (tNx t n pp) ∧ s2_46 = tSt t n (tNx t n pp) ∧ n2_46 = tNx t n (tNx t n pp) := hq_46
        have hP : va_P D vwCl [ob aR 4 [.ref aTX, .int (nI n), .int k2_46, .int (nI s2_46), .int (nI n2_46), .int f2_40, .int p2_40], ar cI aTX 300 fTX] H := hP
        have hD : va_D A [ob aR 4 [.ref aTX, .int (nI n), .int k2_46, .int (nI s2_46), .int (nI n2_46), .int f2_40, .int p2_40], ar cI aTX 300 fTX] := hD
        obtain ⟨rfl, rfl, rfl⟩ := hq_46
        refine lv_iload_n hx hb dX4_readNumber_49 rfl (lv_at hl 0 rfl) ?_
        exact ret 0 (f2_40, p2_40) _ _ _ _ dX4_readNumber_50 (by first | exact nu_1 c_22 hq_27 | exact nu_2 c_22 k_35 hq_40 | exact nu_3 c_22 k_35 | exact absurd c_22 c_5 | exact absurd c_5 c_22) (hP) (hD) hS
    · skip
      refine lv_aload_n hx hb dX4_readNumber_25 rfl (lv_at hl 1 rfl) ?_
      refine lv_iconst (v := 1) hx hb dX4_readNumber_26 (by decide) ?_
      refine m_cVv (As := [.int 1]) (rest := []) (wr := [ar cI aTX 300 fTX]) ⟨hx, hb, hml, hown, hts⟩ (c_X4_blame l D cI cZ aR aTX n (tKd t n pp) (nI (tSt t n pp)) (nI (tNx t n pp)) fa fp 1 ) (cwV 1 hts gX4_readNumber_X4_blame rfl rfl rfl (by decide +kernel) ⟨Nat.le_of_ble_eq_true rfl, Nat.le_of_ble_eq_true rfl⟩) hN hK hP hD hS hA [0] [1] rfl rfl (by decide) (by decide) (by decide) 0 (ci := 4) rfl rfl rfl rfl hl.1 rfl (Nat.le_of_ble_eq_true rfl) dX4_readNumber_27 ⟨Nat.le_of_ble_eq_true rfl, Nat.le_of_ble_eq_true rfl⟩ (fun u_27 H locs hq_27 hP hD hS => ?_)
      obtain ⟨f2_27, p2_27⟩ := u_27
      replace hq_27 : (f2_27, p2_27) = blF (fa, fp) 1 (nI (tSt t n pp)) := hq_27
      have hP : va_P D vwCl [ar cI aTX 300 fTX, ob aR 4 [.ref aTX, .int (nI n), .int (tKd t n pp), .int (nI (tSt t n pp)), .int (nI (tNx t n pp)), .int f2_27, .int p2_27]] H := hP
      have hD : va_D A [ar cI aTX 300 fTX, ob aR 4 [.ref aTX, .int (nI n), .int (tKd t n pp), .int (nI (tSt t n pp)), .int (nI (tNx t n pp)), .int f2_27, .int p2_27]] := hD
      refine lv_goto (tgt := 45) hx hb dX4_readNumber_30 (by decide) ?_
      refine lv_aload_n hx hb dX4_readNumber_45 rfl (lv_at hl 1 rfl) ?_
      refine m_cVv (As := []) (rest := []) (wr := []) ⟨hx, hb, hml, hown, hts⟩ (c_X4_step l D cI cZ aR aTX fTX t n (tNx t n pp) (tKd t n pp) (nI (tSt t n pp)) f2_27 p2_27 (by first | assumption | omega) (tNx_le (t := t) (by assumption)) (by first | assumption | omega)) (cwV 0 hts gX4_readNumber_X4_step rfl rfl rfl (by decide +kernel) ⟨Nat.le_of_ble_eq_true rfl, Nat.le_of_ble_eq_true rfl⟩) hN hK hP hD hS hA [1, 0] [] rfl rfl (by decide) (by decide) (by decide) 0 (ci := 4) rfl rfl rfl rfl hl.1 rfl (Nat.le_of_ble_eq_true rfl) dX4_readNumber_46 ⟨Nat.le_of_ble_eq_true rfl, Nat.le_of_ble_eq_true rfl⟩ (fun u_46 H locs hq_46 hP hD hS => ?_)
      obtain ⟨k2_46, s2_46, n2_46⟩ := u_46
      replace hq_46 : k2_46 = tKd t n (tNx t n pp) ∧ s2_46 = tSt t n (tNx t n pp) ∧ n2_46 = tNx t n (tNx t n pp) := hq_46
      have hP : va_P D vwCl [ob aR 4 [.ref aTX, .int (nI n), .int k2_46, .int (nI s2_46), .int (nI n2_46), .int f2_27, .int p2_27], ar cI aTX 300 fTX] H := hP
      have hD : va_D A [ob aR 4 [.ref aTX, .int (nI n), .int k2_46, .int (nI s2_46), .int (nI n2_46), .int f2_27, .int p2_27], ar cI aTX 300 fTX] := hD
      obtain ⟨rfl, rfl, rfl⟩ := hq_46
      refine lv_iload_n hx hb dX4_readNumber_49 rfl (lv_at hl 0 rfl) ?_
      exact ret 0 (f2_27, p2_27) _ _ _ _ dX4_readNumber_50 (by first | exact nu_1 c_22 hq_27 | exact nu_2 c_22 k_35 hq_40 | exact nu_3 c_22 k_35 | exact absurd c_22 c_5 | exact absurd c_5 c_22) (hP) (hD) hS
  · skip
    refine lv_aload_n hx hb dX4_readNumber_8 rfl (lv_at hl 0 rfl) ?_
    refine m_cVi (As := []) (rest := []) (wr := []) ⟨hx, hb, hml, hown, hts⟩ (c_X4_numberAtHand l D cI cZ aR aTX fTX t n pp fa fp (by first | assumption | omega) (by first | assumption | omega) (by first | assumption | omega) (by first | assumption | omega)) (cwV 0 hts gX4_readNumber_X4_numberAtHand rfl rfl rfl (by decide +kernel) ⟨Nat.le_of_ble_eq_true rfl, Nat.le_of_ble_eq_true rfl⟩) hN hK hP hD hS hA [0, 1] [] rfl rfl (by decide) (by decide) (by decide) 0 (ci := 4) rfl rfl rfl rfl hl.1 rfl (Nat.le_of_ble_eq_true rfl) dX4_readNumber_9 ⟨Nat.le_of_ble_eq_true rfl, Nat.le_of_ble_eq_true rfl⟩ (fun r_9 u_9 H locs hq_9 hP hD hS => ?_)
    replace hq_9 : r_9 = nI (numT t n pp) := hq_9
    have hP : va_P D vwCl [ob aR 4 [.ref aTX, .int (nI n), .int (tKd t n pp), .int (nI (tSt t n pp)), .int (nI (tNx t n pp)), .int fa, .int fp], ar cI aTX 300 fTX] H := hP
    have hD : va_D A [ob aR 4 [.ref aTX, .int (nI n), .int (tKd t n pp), .int (nI (tSt t n pp)), .int (nI (tNx t n pp)), .int fa, .int fp], ar cI aTX 300 fTX] := hD
    subst hq_9
    have hnb := numT_le (t := t) (n := n) (q := pp) (by assumption)
    refine lv_goto (tgt := 16) hx hb dX4_readNumber_12 (by decide) ?_
    refine lv_istore_n (lv' := [(2, .int (nI (numT t n pp))), (0, .ref aR), (1, .int (nI mx))]) hx hb dX4_readNumber_16 rfl hl (by decide) rfl (fun ls hl => ?_)
    refine lv_aload_n hx hb dX4_readNumber_17 rfl (lv_at hl 1 rfl) ?_
    refine va_get (D := D) (ci := 4) (v := .int (tKd t n pp)) (C := RX4) (T := TX4) (N := 7) hx hb hts inX4 hown hK hP 0 rfl rfl 2 (by decide) fl19 (fun _ h9 => h9) rfl dX4_readNumber_18 ?_
    refine lv_iconst (v := 2) hx hb dX4_readNumber_21 (by decide) ?_
    refine lv_icmp_eq (tgt := 33) hx hb dX4_readNumber_22 (by decide) (fun c_22 => ?_) (fun c_22 => ?_)
    · skip
      refine lv_iload_n hx hb dX4_readNumber_33 rfl (lv_at hl 0 rfl) ?_
      refine lv_iload_n hx hb dX4_readNumber_34 rfl (lv_at hl 2 rfl) ?_
      refine lv_icmp_le (tgt := 45) hx hb dX4_readNumber_35 (by decide) (fun c_35 => ?_) (fun c_35 => ?_)
      · skip
        have k_35 : (numT t n pp) ≤ mx := (nI_leI (a := (numT t n pp)) (b := mx) (by omega) (by omega)).mp c_35
        refine lv_aload_n hx hb dX4_readNumber_45 rfl (lv_at hl 1 rfl) ?_
        refine m_cVv (As := []) (rest := []) (wr := []) ⟨hx, hb, hml, hown, hts⟩ (c_X4_step l D cI cZ aR aTX fTX t n (tNx t n pp) (tKd t n pp) (nI (tSt t n pp)) fa fp (by first | assumption | omega) (tNx_le (t := t) (by assumption)) (by first | assumption | omega)) (cwV 0 hts gX4_readNumber_X4_step rfl rfl rfl (by decide +kernel) ⟨Nat.le_of_ble_eq_true rfl, Nat.le_of_ble_eq_true rfl⟩) hN hK hP hD hS hA [0, 1] [] rfl rfl (by decide) (by decide) (by decide) 0 (ci := 4) rfl rfl rfl rfl hl.1 rfl (Nat.le_of_ble_eq_true rfl) dX4_readNumber_46 ⟨Nat.le_of_ble_eq_true rfl, Nat.le_of_ble_eq_true rfl⟩ (fun u_46 H locs hq_46 hP hD hS => ?_)
        obtain ⟨k2_46, s2_46, n2_46⟩ := u_46
        replace hq_46 : k2_46 = tKd t n (tNx t n pp) ∧ s2_46 = tSt t n (tNx t n pp) ∧ n2_46 = tNx t n (tNx t n pp) := hq_46
        have hP : va_P D vwCl [ob aR 4 [.ref aTX, .int (nI n), .int k2_46, .int (nI s2_46), .int (nI n2_46), .int fa, .int fp], ar cI aTX 300 fTX] H := hP
        have hD : va_D A [ob aR 4 [.ref aTX, .int (nI n), .int k2_46, .int (nI s2_46), .int (nI n2_46), .int fa, .int fp], ar cI aTX 300 fTX] := hD
        obtain ⟨rfl, rfl, rfl⟩ := hq_46
        refine lv_iload_n hx hb dX4_readNumber_49 rfl (lv_at hl 0 rfl) ?_
        exact ret (nI (numT t n pp)) (fa, fp) _ _ _ _ dX4_readNumber_50 (by first | exact nu_1 c_22 hq_27 | exact nu_2 c_22 k_35 hq_40 | exact nu_3 c_22 k_35 | exact absurd c_22 c_5 | exact absurd c_5 c_22) (hP) (hD) hS
      · skip
        have k_35 : ¬ (numT t n pp) ≤ mx := fun h9 => c_35 ((nI_leI (a := (numT t n pp)) (b := mx) (by omega) (by omega)).mpr h9)
        refine lv_aload_n hx hb dX4_readNumber_38 rfl (lv_at hl 1 rfl) ?_
        refine lv_iconst (v := 2) hx hb dX4_readNumber_39 (by decide) ?_
        refine m_cVv (As := [.int 2]) (rest := []) (wr := [ar cI aTX 300 fTX]) ⟨hx, hb, hml, hown, hts⟩ (c_X4_blame l D cI cZ aR aTX n (tKd t n pp) (nI (tSt t n pp)) (nI (tNx t n pp)) fa fp 2 ) (cwV 1 hts gX4_readNumber_X4_blame rfl rfl rfl (by decide +kernel) ⟨Nat.le_of_ble_eq_true rfl, Nat.le_of_ble_eq_true rfl⟩) hN hK hP hD hS hA [0] [1] rfl rfl (by decide) (by decide) (by decide) 0 (ci := 4) rfl rfl rfl rfl hl.1 rfl (Nat.le_of_ble_eq_true rfl) dX4_readNumber_40 ⟨Nat.le_of_ble_eq_true rfl, Nat.le_of_ble_eq_true rfl⟩ (fun u_40 H locs hq_40 hP hD hS => ?_)
        obtain ⟨f2_40, p2_40⟩ := u_40
        replace hq_40 : (f2_40, p2_40) = blF (fa, fp) 2 (nI (tSt t n pp)) := hq_40
        have hP : va_P D vwCl [ar cI aTX 300 fTX, ob aR 4 [.ref aTX, .int (nI n), .int (tKd t n pp), .int (nI (tSt t n pp)), .int (nI (tNx t n pp)), .int f2_40, .int p2_40]] H := hP
        have hD : va_D A [ar cI aTX 300 fTX, ob aR 4 [.ref aTX, .int (nI n), .int (tKd t n pp), .int (nI (tSt t n pp)), .int (nI (tNx t n pp)), .int f2_40, .int p2_40]] := hD
        refine lv_iconst (v := 0) hx hb dX4_readNumber_43 (by decide) ?_
        refine lv_istore_n (lv' := [(2, .int 0), (0, .ref aR), (1, .int (nI mx))]) hx hb dX4_readNumber_44 rfl hl (by decide) rfl (fun ls hl => ?_)
        refine lv_aload_n hx hb dX4_readNumber_45 rfl (lv_at hl 1 rfl) ?_
        refine m_cVv (As := []) (rest := []) (wr := []) ⟨hx, hb, hml, hown, hts⟩ (c_X4_step l D cI cZ aR aTX fTX t n (tNx t n pp) (tKd t n pp) (nI (tSt t n pp)) f2_40 p2_40 (by first | assumption | omega) (tNx_le (t := t) (by assumption)) (by first | assumption | omega)) (cwV 0 hts gX4_readNumber_X4_step rfl rfl rfl (by decide +kernel) ⟨Nat.le_of_ble_eq_true rfl, Nat.le_of_ble_eq_true rfl⟩) hN hK hP hD hS hA [1, 0] [] rfl rfl (by decide) (by decide) (by decide) 0 (ci := 4) rfl rfl rfl rfl hl.1 rfl (Nat.le_of_ble_eq_true rfl) dX4_readNumber_46 ⟨Nat.le_of_ble_eq_true rfl, Nat.le_of_ble_eq_true rfl⟩ (fun u_46 H locs hq_46 hP hD hS => ?_)
        obtain ⟨k2_46, s2_46, n2_46⟩ := u_46
        replace hq_46 : k2_46 = tKd t n (tNx t n pp) ∧ s2_46 = tSt t n (tNx t n pp) ∧ n2_46 = tNx t n (tNx t n pp) := hq_46
        have hP : va_P D vwCl [ob aR 4 [.ref aTX, .int (nI n), .int k2_46, .int (nI s2_46), .int (nI n2_46), .int f2_40, .int p2_40], ar cI aTX 300 fTX] H := hP
        have hD : va_D A [ob aR 4 [.ref aTX, .int (nI n), .int k2_46, .int (nI s2_46), .int (nI n2_46), .int f2_40, .int p2_40], ar cI aTX 300 fTX] := hD
        obtain ⟨rfl, rfl, rfl⟩ := hq_46
        refine lv_iload_n hx hb dX4_readNumber_49 rfl (lv_at hl 0 rfl) ?_
        exact ret 0 (f2_40, p2_40) _ _ _ _ dX4_readNumber_50 (by first | exact nu_1 c_22 hq_27 | exact nu_2 c_22 k_35 hq_40 | exact nu_3 c_22 k_35 | exact absurd c_22 c_5 | exact absurd c_5 c_22) (hP) (hD) hS
    · skip
      refine lv_aload_n hx hb dX4_readNumber_25 rfl (lv_at hl 1 rfl) ?_
      refine lv_iconst (v := 1) hx hb dX4_readNumber_26 (by decide) ?_
      refine m_cVv (As := [.int 1]) (rest := []) (wr := [ar cI aTX 300 fTX]) ⟨hx, hb, hml, hown, hts⟩ (c_X4_blame l D cI cZ aR aTX n (tKd t n pp) (nI (tSt t n pp)) (nI (tNx t n pp)) fa fp 1 ) (cwV 1 hts gX4_readNumber_X4_blame rfl rfl rfl (by decide +kernel) ⟨Nat.le_of_ble_eq_true rfl, Nat.le_of_ble_eq_true rfl⟩) hN hK hP hD hS hA [0] [1] rfl rfl (by decide) (by decide) (by decide) 0 (ci := 4) rfl rfl rfl rfl hl.1 rfl (Nat.le_of_ble_eq_true rfl) dX4_readNumber_27 ⟨Nat.le_of_ble_eq_true rfl, Nat.le_of_ble_eq_true rfl⟩ (fun u_27 H locs hq_27 hP hD hS => ?_)
      obtain ⟨f2_27, p2_27⟩ := u_27
      replace hq_27 : (f2_27, p2_27) = blF (fa, fp) 1 (nI (tSt t n pp)) := hq_27
      have hP : va_P D vwCl [ar cI aTX 300 fTX, ob aR 4 [.ref aTX, .int (nI n), .int (tKd t n pp), .int (nI (tSt t n pp)), .int (nI (tNx t n pp)), .int f2_27, .int p2_27]] H := hP
      have hD : va_D A [ar cI aTX 300 fTX, ob aR 4 [.ref aTX, .int (nI n), .int (tKd t n pp), .int (nI (tSt t n pp)), .int (nI (tNx t n pp)), .int f2_27, .int p2_27]] := hD
      refine lv_goto (tgt := 45) hx hb dX4_readNumber_30 (by decide) ?_
      refine lv_aload_n hx hb dX4_readNumber_45 rfl (lv_at hl 1 rfl) ?_
      refine m_cVv (As := []) (rest := []) (wr := []) ⟨hx, hb, hml, hown, hts⟩ (c_X4_step l D cI cZ aR aTX fTX t n (tNx t n pp) (tKd t n pp) (nI (tSt t n pp)) f2_27 p2_27 (by first | assumption | omega) (tNx_le (t := t) (by assumption)) (by first | assumption | omega)) (cwV 0 hts gX4_readNumber_X4_step rfl rfl rfl (by decide +kernel) ⟨Nat.le_of_ble_eq_true rfl, Nat.le_of_ble_eq_true rfl⟩) hN hK hP hD hS hA [1, 0] [] rfl rfl (by decide) (by decide) (by decide) 0 (ci := 4) rfl rfl rfl rfl hl.1 rfl (Nat.le_of_ble_eq_true rfl) dX4_readNumber_46 ⟨Nat.le_of_ble_eq_true rfl, Nat.le_of_ble_eq_true rfl⟩ (fun u_46 H locs hq_46 hP hD hS => ?_)
      obtain ⟨k2_46, s2_46, n2_46⟩ := u_46
      replace hq_46 : k2_46 = tKd t n (tNx t n pp) ∧ s2_46 = tSt t n (tNx t n pp) ∧ n2_46 = tNx t n (tNx t n pp) := hq_46
      have hP : va_P D vwCl [ob aR 4 [.ref aTX, .int (nI n), .int k2_46, .int (nI s2_46), .int (nI n2_46), .int f2_27, .int p2_27], ar cI aTX 300 fTX] H := hP
      have hD : va_D A [ob aR 4 [.ref aTX, .int (nI n), .int k2_46, .int (nI s2_46), .int (nI n2_46), .int f2_27, .int p2_27], ar cI aTX 300 fTX] := hD
      obtain ⟨rfl, rfl, rfl⟩ := hq_46
      refine lv_iload_n hx hb dX4_readNumber_49 rfl (lv_at hl 0 rfl) ?_
      exact ret (nI (numT t n pp)) (f2_27, p2_27) _ _ _ _ dX4_readNumber_50 (by first | exact nu_1 c_22 hq_27 | exact nu_2 c_22 k_35 hq_40 | exact nu_3 c_22 k_35 | exact absurd c_22 c_5 | exact absurd c_5 c_22) (hP) (hD) hS
abbrev r_c_X4_readSemicolon : Room := { frames := 2, cells := 0, slots := 0, locals := 40 }
set_option maxHeartbeats 4000000 in
set_option maxRecDepth 100000 in
theorem c_X4_readSemicolon (l : Launch) (D : va_G) (cI cZ : ClassId) (aR : Nat) (aTX : Nat) (fTX : Nat → Int32) (t : Nat → Int32) (n : Nat) (pp : Nat) (fa : Int32) (fp : Int32) (hn : n ≤ 300) (hp : pp ≤ n) (ht : ∀ j, j < n → fTX j = t j) : MV l yX4_readSemicolon wsX4_readSemicolon r_c_X4_readSemicolon D cI cZ [.ref aR] [ob aR 4 [.ref aTX, .int (nI n), .int (tKd t n pp), .int (nI (tSt t n pp)), .int (nI (tNx t n pp)), .int fa, .int fp], ar cI aTX 300 fTX] (fun (u : Int32 × Int32) => (u.1, u.2) = seB t n pp (fa, fp)) (fun (u : Int32 × Int32) => [ob aR 4 [.ref aTX, .int (nI n), .int (tKd t n (tNx t n pp)), .int (nI (tSt t n (tNx t n pp))), .int (nI (tNx t n (tNx t n pp))), .int u.1, .int u.2], ar cI aTX 300 fTX]) 0 0 := by
  refine MV.of (cc := cX4_readSemicolon) (maxL := 1) (by decide) rfl (Nat.le_of_ble_eq_true rfl) ?_
  intro p e s m below meth c A Q hx hb hml hown hts hN hK hA ret hP hD hS ls hl hmn
  have hown : s.vm.findClass RX4 = some m.cls := hown
  have inX4 : ∀ w ∈ wsX40, w ∈ wsX4_readSemicolon := by decide +kernel
  have fl19 := hts (.fieldLink RX4 19 "AdvanceBook$Reader" "kind" "I") (by decide +kernel)
  have hP : va_P D vwCl [ob aR 4 [.ref aTX, .int (nI n), .int (tKd t n pp), .int (nI (tSt t n pp)), .int (nI (tNx t n pp)), .int fa, .int fp], ar cI aTX 300 fTX] s.heap := hP
  have hD : va_D A [ob aR 4 [.ref aTX, .int (nI n), .int (tKd t n pp), .int (nI (tSt t n pp)), .int (nI (tNx t n pp)), .int fa, .int fp], ar cI aTX 300 fTX] := hD
  have hl : lv_has ls 1 [(0, .ref aR)] := hl
  refine lv_aload_n hx hb dX4_readSemicolon_0 rfl (lv_at hl 0 rfl) ?_
  refine va_get (D := D) (ci := 4) (v := .int (tKd t n pp)) (C := RX4) (T := TX4) (N := 7) hx hb hts inX4 hown hK hP 0 rfl rfl 2 (by decide) fl19 (fun _ h9 => h9) rfl dX4_readSemicolon_1 ?_
  refine lv_iconst (v := 3) hx hb dX4_readSemicolon_4 (by decide) ?_
  refine lv_icmp_eq (tgt := 13) hx hb dX4_readSemicolon_5 (by decide) (fun c_5 => ?_) (fun c_5 => ?_)
  · skip
    refine lv_aload_n hx hb dX4_readSemicolon_13 rfl (lv_at hl 0 rfl) ?_
    refine m_cVv (As := []) (rest := []) (wr := []) ⟨hx, hb, hml, hown, hts⟩ (c_X4_step l D cI cZ aR aTX fTX t n (tNx t n pp) (tKd t n pp) (nI (tSt t n pp)) fa fp (by first | assumption | omega) (tNx_le (t := t) (by assumption)) (by first | assumption | omega)) (cwV 0 hts gX4_readSemicolon_X4_step rfl rfl rfl (by decide +kernel) ⟨Nat.le_of_ble_eq_true rfl, Nat.le_of_ble_eq_true rfl⟩) hN hK hP hD hS hA [0, 1] [] rfl rfl (by decide) (by decide) (by decide) 0 (ci := 4) rfl rfl rfl rfl hl.1 rfl (Nat.le_of_ble_eq_true rfl) dX4_readSemicolon_14 ⟨Nat.le_of_ble_eq_true rfl, Nat.le_of_ble_eq_true rfl⟩ (fun u_14 H locs hq_14 hP hD hS => ?_)
    obtain ⟨k2_14, s2_14, n2_14⟩ := u_14
    replace hq_14 : k2_14 = tKd t n (tNx t n pp) ∧ s2_14 = tSt t n (tNx t n pp) ∧ n2_14 = tNx t n (tNx t n pp) := hq_14
    have hP : va_P D vwCl [ob aR 4 [.ref aTX, .int (nI n), .int k2_14, .int (nI s2_14), .int (nI n2_14), .int fa, .int fp], ar cI aTX 300 fTX] H := hP
    have hD : va_D A [ob aR 4 [.ref aTX, .int (nI n), .int k2_14, .int (nI s2_14), .int (nI n2_14), .int fa, .int fp], ar cI aTX 300 fTX] := hD
    obtain ⟨rfl, rfl, rfl⟩ := hq_14
    exact ret (fa, fp) _ _ _ _ dX4_readSemicolon_17 (by unfold seB; grind) (hP) (hD) hS
  · skip
    refine lv_aload_n hx hb dX4_readSemicolon_8 rfl (lv_at hl 0 rfl) ?_
    refine lv_iconst (v := 1) hx hb dX4_readSemicolon_9 (by decide) ?_
    refine m_cVv (As := [.int 1]) (rest := []) (wr := [ar cI aTX 300 fTX]) ⟨hx, hb, hml, hown, hts⟩ (c_X4_blame l D cI cZ aR aTX n (tKd t n pp) (nI (tSt t n pp)) (nI (tNx t n pp)) fa fp 1 ) (cwV 1 hts gX4_readSemicolon_X4_blame rfl rfl rfl (by decide +kernel) ⟨Nat.le_of_ble_eq_true rfl, Nat.le_of_ble_eq_true rfl⟩) hN hK hP hD hS hA [0] [1] rfl rfl (by decide) (by decide) (by decide) 0 (ci := 4) rfl rfl rfl rfl hl.1 rfl (Nat.le_of_ble_eq_true rfl) dX4_readSemicolon_10 ⟨Nat.le_of_ble_eq_true rfl, Nat.le_of_ble_eq_true rfl⟩ (fun u_10 H locs hq_10 hP hD hS => ?_)
    obtain ⟨f2_10, p2_10⟩ := u_10
    replace hq_10 : (f2_10, p2_10) = blF (fa, fp) 1 (nI (tSt t n pp)) := hq_10
    have hP : va_P D vwCl [ar cI aTX 300 fTX, ob aR 4 [.ref aTX, .int (nI n), .int (tKd t n pp), .int (nI (tSt t n pp)), .int (nI (tNx t n pp)), .int f2_10, .int p2_10]] H := hP
    have hD : va_D A [ar cI aTX 300 fTX, ob aR 4 [.ref aTX, .int (nI n), .int (tKd t n pp), .int (nI (tSt t n pp)), .int (nI (tNx t n pp)), .int f2_10, .int p2_10]] := hD
    refine lv_aload_n hx hb dX4_readSemicolon_13 rfl (lv_at hl 0 rfl) ?_
    refine m_cVv (As := []) (rest := []) (wr := []) ⟨hx, hb, hml, hown, hts⟩ (c_X4_step l D cI cZ aR aTX fTX t n (tNx t n pp) (tKd t n pp) (nI (tSt t n pp)) f2_10 p2_10 (by first | assumption | omega) (tNx_le (t := t) (by assumption)) (by first | assumption | omega)) (cwV 0 hts gX4_readSemicolon_X4_step rfl rfl rfl (by decide +kernel) ⟨Nat.le_of_ble_eq_true rfl, Nat.le_of_ble_eq_true rfl⟩) hN hK hP hD hS hA [1, 0] [] rfl rfl (by decide) (by decide) (by decide) 0 (ci := 4) rfl rfl rfl rfl hl.1 rfl (Nat.le_of_ble_eq_true rfl) dX4_readSemicolon_14 ⟨Nat.le_of_ble_eq_true rfl, Nat.le_of_ble_eq_true rfl⟩ (fun u_14 H locs hq_14 hP hD hS => ?_)
    obtain ⟨k2_14, s2_14, n2_14⟩ := u_14
    replace hq_14 : k2_14 = tKd t n (tNx t n pp) ∧ s2_14 = tSt t n (tNx t n pp) ∧ n2_14 = tNx t n (tNx t n pp) := hq_14
    have hP : va_P D vwCl [ob aR 4 [.ref aTX, .int (nI n), .int k2_14, .int (nI s2_14), .int (nI n2_14), .int f2_10, .int p2_10], ar cI aTX 300 fTX] H := hP
    have hD : va_D A [ob aR 4 [.ref aTX, .int (nI n), .int k2_14, .int (nI s2_14), .int (nI n2_14), .int f2_10, .int p2_10], ar cI aTX 300 fTX] := hD
    obtain ⟨rfl, rfl, rfl⟩ := hq_14
    exact ret (f2_10, p2_10) _ _ _ _ dX4_readSemicolon_17 (by unfold seB; grind) (hP) (hD) hS
abbrev r_c_X4_readCut : Room := { frames := 3, cells := 0, slots := 0, locals := 62 }
set_option maxHeartbeats 4000000 in
set_option maxRecDepth 100000 in
theorem c_X4_readCut (l : Launch) (D : va_G) (cI cZ : ClassId) (aR : Nat) (aTX : Nat) (aD : Nat) (aCU : Nat) (aMV : Nat) (fTX : Nat → Int32) (t : Nat → Int32) (n : Nat) (pp : Nat) (fCU : Nat → Int32) (sp : Int32) (bf : Int32) (ln : Int32) (fa : Int32) (fp : Int32) (hn : n ≤ 300) (hp : pp ≤ n) (ht : ∀ j, j < n → fTX j = t j) : MV l yX4_readCut wsX4_readCut r_c_X4_readCut D cI cZ [.ref aR, .ref aD] [ob aR 4 [.ref aTX, .int (nI n), .int (tKd t n pp), .int (nI (tSt t n pp)), .int (nI (tNx t n pp)), .int fa, .int fp], ar cI aTX 300 fTX, ob aD 2 [.ref aCU, .ref aMV, .int sp, .int bf, .int ln], ar cI aCU 4 fCU] (fun (u : Int32 × Int32 × (Nat → Int32)) => (u.1, u.2.1) = nuB t n (tNx t n (tNx t n pp)) 100 (nuB t n (tNx t n pp) 3 (rkB t n (tNx t n pp) fCU (fa, fp))) ∧ u.2.2 = upd fCU (nuV t n (tNx t n pp) 3) (nI (nuV t n (tNx t n (tNx t n pp)) 100))) (fun (u : Int32 × Int32 × (Nat → Int32)) => [ob aR 4 [.ref aTX, .int (nI n), .int (tKd t n (tNx t n (tNx t n (tNx t n pp)))), .int (nI (tSt t n (tNx t n (tNx t n (tNx t n pp))))), .int (nI (tNx t n (tNx t n (tNx t n (tNx t n pp))))), .int u.1, .int u.2.1], ar cI aTX 300 fTX, ob aD 2 [.ref aCU, .ref aMV, .int sp, .int bf, .int ln], ar cI aCU 4 u.2.2]) 0 0 := by
  refine MV.of (cc := cX4_readCut) (maxL := 3) (by decide) rfl (Nat.le_of_ble_eq_true rfl) ?_
  intro p e s m below meth c A Q hx hb hml hown hts hN hK hA ret hP hD hS ls hl hmn
  have hown : s.vm.findClass RX4 = some m.cls := hown
  have inX2 : ∀ w ∈ wsX20, w ∈ wsX4_readCut := by decide +kernel
  have fl92 : (Cond.fieldLinkNest RX4 92 "AdvanceBook$Decree" "cuts" "[I" "AdvanceBook").before (([.ref aR, .ref aD] : List Value).toArray) s = true := nest_useF hN (by decide +kernel)
  have hP : va_P D vwCl [ob aR 4 [.ref aTX, .int (nI n), .int (tKd t n pp), .int (nI (tSt t n pp)), .int (nI (tNx t n pp)), .int fa, .int fp], ar cI aTX 300 fTX, ob aD 2 [.ref aCU, .ref aMV, .int sp, .int bf, .int ln], ar cI aCU 4 fCU] s.heap := hP
  have hD : va_D A [ob aR 4 [.ref aTX, .int (nI n), .int (tKd t n pp), .int (nI (tSt t n pp)), .int (nI (tNx t n pp)), .int fa, .int fp], ar cI aTX 300 fTX, ob aD 2 [.ref aCU, .ref aMV, .int sp, .int bf, .int ln], ar cI aCU 4 fCU] := hD
  have hl : lv_has ls 3 [(0, .ref aR), (1, .ref aD)] := hl
  refine lv_aload_n hx hb dX4_readCut_0 rfl (lv_at hl 0 rfl) ?_
  refine m_cVv (As := []) (rest := []) (wr := [ob aD 2 [.ref aCU, .ref aMV, .int sp, .int bf, .int ln], ar cI aCU 4 fCU]) ⟨hx, hb, hml, hown, hts⟩ (c_X4_step l D cI cZ aR aTX fTX t n (tNx t n pp) (tKd t n pp) (nI (tSt t n pp)) fa fp (by first | assumption | omega) (tNx_le (t := t) (by assumption)) (by first | assumption | omega)) (cwV 0 hts gX4_readCut_X4_step rfl rfl rfl (by decide +kernel) ⟨Nat.le_of_ble_eq_true rfl, Nat.le_of_ble_eq_true rfl⟩) hN hK hP hD hS hA [0, 1] [2, 3] rfl rfl (by decide) (by decide) (by decide) 0 (ci := 4) rfl rfl rfl rfl hl.1 rfl (Nat.le_of_ble_eq_true rfl) dX4_readCut_1 ⟨Nat.le_of_ble_eq_true rfl, Nat.le_of_ble_eq_true rfl⟩ (fun u_1 H locs hq_1 hP hD hS => ?_)
  obtain ⟨k2_1, s2_1, n2_1⟩ := u_1
  replace hq_1 : k2_1 = tKd t n (tNx t n pp) ∧ s2_1 = tSt t n (tNx t n pp) ∧ n2_1 = tNx t n (tNx t n pp) := hq_1
  have hP : va_P D vwCl [ob aD 2 [.ref aCU, .ref aMV, .int sp, .int bf, .int ln], ar cI aCU 4 fCU, ob aR 4 [.ref aTX, .int (nI n), .int k2_1, .int (nI s2_1), .int (nI n2_1), .int fa, .int fp], ar cI aTX 300 fTX] H := hP
  have hD : va_D A [ob aD 2 [.ref aCU, .ref aMV, .int sp, .int bf, .int ln], ar cI aCU 4 fCU, ob aR 4 [.ref aTX, .int (nI n), .int k2_1, .int (nI s2_1), .int (nI n2_1), .int fa, .int fp], ar cI aTX 300 fTX] := hD
  obtain ⟨rfl, rfl, rfl⟩ := hq_1
  refine lv_aload_n hx hb dX4_readCut_4 rfl (lv_at hl 0 rfl) ?_
  refine lv_aload_n hx hb dX4_readCut_5 rfl (lv_at hl 1 rfl) ?_
  refine va_getN (D := D) (ci := 2) (v := .ref aCU) (C := RX2) (T := TX2) (N := 5) hx hb hts inX2 hown hK hP 0 rfl rfl 0 (by decide) fl92 (fun _ h9 => h9) rfl dX4_readCut_6 ?_
  refine m_cVv (As := [.ref aCU]) (rest := []) (wr := [ob aD 2 [.ref aCU, .ref aMV, .int sp, .int bf, .int ln]]) ⟨hx, hb, hml, hown, hts⟩ (c_X4_blameRankOf l D cI cZ aR aTX aCU fTX t n (tNx t n pp) fCU fa fp (by first | assumption | omega) (tNx_le (t := t) hp) (by first | assumption | omega)) (cwV 1 hts gX4_readCut_X4_blameRankOf rfl rfl rfl (by decide +kernel) ⟨Nat.le_of_ble_eq_true rfl, Nat.le_of_ble_eq_true rfl⟩) hN hK hP hD hS hA [2, 3, 1] [0] rfl rfl (by decide) (by decide) (by decide) 0 (ci := 4) rfl rfl rfl rfl hl.1 rfl (Nat.le_of_ble_eq_true rfl) dX4_readCut_9 ⟨Nat.le_of_ble_eq_true rfl, Nat.le_of_ble_eq_true rfl⟩ (fun u_9 H locs hq_9 hP hD hS => ?_)
  obtain ⟨f2_9, p2_9⟩ := u_9
  replace hq_9 : (f2_9, p2_9) = rkB t n (tNx t n pp) fCU (fa, fp) := hq_9
  have hP : va_P D vwCl [ob aD 2 [.ref aCU, .ref aMV, .int sp, .int bf, .int ln], ob aR 4 [.ref aTX, .int (nI n), .int (tKd t n (tNx t n pp)), .int (nI (tSt t n (tNx t n pp))), .int (nI (tNx t n (tNx t n pp))), .int f2_9, .int p2_9], ar cI aTX 300 fTX, ar cI aCU 4 fCU] H := hP
  have hD : va_D A [ob aD 2 [.ref aCU, .ref aMV, .int sp, .int bf, .int ln], ob aR 4 [.ref aTX, .int (nI n), .int (tKd t n (tNx t n pp)), .int (nI (tSt t n (tNx t n pp))), .int (nI (tNx t n (tNx t n pp))), .int f2_9, .int p2_9], ar cI aTX 300 fTX, ar cI aCU 4 fCU] := hD
  refine lv_aload_n hx hb dX4_readCut_12 rfl (lv_at hl 0 rfl) ?_
  refine lv_iconst (v := 3) hx hb dX4_readCut_13 (by decide) ?_
  refine m_cVi (As := [.int 3]) (rest := []) (wr := [ob aD 2 [.ref aCU, .ref aMV, .int sp, .int bf, .int ln], ar cI aCU 4 fCU]) ⟨hx, hb, hml, hown, hts⟩ (c_X4_readNumber l D cI cZ aR aTX fTX t n (tNx t n pp) 3 f2_9 p2_9 (by first | assumption | omega) (tNx_le (t := t) hp) (by first | assumption | omega) (by first | assumption | omega)) (cwV 1 hts gX4_readCut_X4_readNumber rfl rfl rfl (by decide +kernel) ⟨Nat.le_of_ble_eq_true rfl, Nat.le_of_ble_eq_true rfl⟩) hN hK hP hD hS hA [1, 2] [0, 3] rfl rfl (by decide) (by decide) (by decide) 0 (ci := 4) rfl rfl rfl rfl hl.1 rfl (Nat.le_of_ble_eq_true rfl) dX4_readCut_14 ⟨Nat.le_of_ble_eq_true rfl, Nat.le_of_ble_eq_true rfl⟩ (fun r_14 u_14 H locs hq_14 hP hD hS => ?_)
  obtain ⟨f2_14, p2_14⟩ := u_14
  replace hq_14 : r_14 = nI (nuV t n (tNx t n pp) 3) ∧ (f2_14, p2_14) = nuB t n (tNx t n pp) 3 (f2_9, p2_9) := hq_14
  have hP : va_P D vwCl [ob aD 2 [.ref aCU, .ref aMV, .int sp, .int bf, .int ln], ar cI aCU 4 fCU, ob aR 4 [.ref aTX, .int (nI n), .int (tKd t n (tNx t n (tNx t n pp))), .int (nI (tSt t n (tNx t n (tNx t n pp)))), .int (nI (tNx t n (tNx t n (tNx t n pp)))), .int f2_14, .int p2_14], ar cI aTX 300 fTX] H := hP
  have hD : va_D A [ob aD 2 [.ref aCU, .ref aMV, .int sp, .int bf, .int ln], ar cI aCU 4 fCU, ob aR 4 [.ref aTX, .int (nI n), .int (tKd t n (tNx t n (tNx t n pp))), .int (nI (tSt t n (tNx t n (tNx t n pp)))), .int (nI (tNx t n (tNx t n (tNx t n pp)))), .int f2_14, .int p2_14], ar cI aTX 300 fTX] := hD
  have hv_14 := hq_14.1
  subst hv_14
  refine lv_istore_n (lv' := [(2, .int (nI (nuV t n (tNx t n pp) 3))), (0, .ref aR), (1, .ref aD)]) hx hb dX4_readCut_17 rfl hl (by decide) rfl (fun ls hl => ?_)
  refine lv_aload_n hx hb dX4_readCut_18 rfl (lv_at hl 2 rfl) ?_
  refine va_getN (D := D) (ci := 2) (v := .ref aCU) (C := RX2) (T := TX2) (N := 5) hx hb hts inX2 hown hK hP 0 rfl rfl 0 (by decide) fl92 (fun _ h9 => h9) rfl dX4_readCut_19 ?_
  refine lv_iload_n hx hb dX4_readCut_22 rfl (lv_at hl 0 rfl) ?_
  refine lv_aload_n hx hb dX4_readCut_23 rfl (lv_at hl 1 rfl) ?_
  refine lv_bipush (v := 100) hx hb dX4_readCut_24 (by decide) ?_
  refine m_cVi (As := [.int 100]) (rest := [.int (nI (nuV t n (tNx t n pp) 3)), .ref aCU]) (wr := [ob aD 2 [.ref aCU, .ref aMV, .int sp, .int bf, .int ln], ar cI aCU 4 fCU]) ⟨hx, hb, hml, hown, hts⟩ (c_X4_readNumber l D cI cZ aR aTX fTX t n (tNx t n (tNx t n pp)) 100 f2_14 p2_14 (by first | assumption | omega) (tNx_le (t := t) (tNx_le (t := t) hp)) (by first | assumption | omega) (by first | assumption | omega)) (cwV 1 hts gX4_readCut_X4_readNumber rfl rfl rfl (by decide +kernel) ⟨Nat.le_of_ble_eq_true rfl, Nat.le_of_ble_eq_true rfl⟩) hN hK hP hD hS hA [2, 3] [0, 1] rfl rfl (by decide) (by decide) (by decide) 0 (ci := 4) rfl rfl rfl rfl hl.1 rfl (Nat.le_of_ble_eq_true rfl) dX4_readCut_26 ⟨Nat.le_of_ble_eq_true rfl, Nat.le_of_ble_eq_true rfl⟩ (fun r_26 u_26 H locs hq_26 hP hD hS => ?_)
  obtain ⟨f2_26, p2_26⟩ := u_26
  replace hq_26 : r_26 = nI (nuV t n (tNx t n (tNx t n pp)) 100) ∧ (f2_26, p2_26) = nuB t n (tNx t n (tNx t n pp)) 100 (f2_14, p2_14) := hq_26
  have hP : va_P D vwCl [ob aD 2 [.ref aCU, .ref aMV, .int sp, .int bf, .int ln], ar cI aCU 4 fCU, ob aR 4 [.ref aTX, .int (nI n), .int (tKd t n (tNx t n (tNx t n (tNx t n pp)))), .int (nI (tSt t n (tNx t n (tNx t n (tNx t n pp))))), .int (nI (tNx t n (tNx t n (tNx t n (tNx t n pp))))), .int f2_26, .int p2_26], ar cI aTX 300 fTX] H := hP
  have hD : va_D A [ob aD 2 [.ref aCU, .ref aMV, .int sp, .int bf, .int ln], ar cI aCU 4 fCU, ob aR 4 [.ref aTX, .int (nI n), .int (tKd t n (tNx t n (tNx t n (tNx t n pp)))), .int (nI (tSt t n (tNx t n (tNx t n (tNx t n pp))))), .int (nI (tNx t n (tNx t n (tNx t n (tNx t n pp))))), .int f2_26, .int p2_26], ar cI aTX 300 fTX] := hD
  have hv_26 := hq_26.1
  subst hv_26
  refine m_iast (k := (nuV t n (tNx t n pp) 3)) (x := (nI (nuV t n (tNx t n (tNx t n pp)) 100))) hx hb hK hP hD hS 1 0 rfl rfl (Nat.lt_of_le_of_lt nuV_le (by decide)) (by decide) dX4_readCut_29 (fun H locs hP hD hS => ?_)
  have hP : va_P D vwCl [ob aD 2 [.ref aCU, .ref aMV, .int sp, .int bf, .int ln], ar cI aCU 4 (upd fCU (nuV t n (tNx t n pp) 3) (nI (nuV t n (tNx t n (tNx t n pp)) 100))), ob aR 4 [.ref aTX, .int (nI n), .int (tKd t n (tNx t n (tNx t n (tNx t n pp)))), .int (nI (tSt t n (tNx t n (tNx t n (tNx t n pp))))), .int (nI (tNx t n (tNx t n (tNx t n (tNx t n pp))))), .int f2_26, .int p2_26], ar cI aTX 300 fTX] H := hP
  have hD : va_D A [ob aD 2 [.ref aCU, .ref aMV, .int sp, .int bf, .int ln], ar cI aCU 4 (upd fCU (nuV t n (tNx t n pp) 3) (nI (nuV t n (tNx t n (tNx t n pp)) 100))), ob aR 4 [.ref aTX, .int (nI n), .int (tKd t n (tNx t n (tNx t n (tNx t n pp)))), .int (nI (tSt t n (tNx t n (tNx t n (tNx t n pp))))), .int (nI (tNx t n (tNx t n (tNx t n (tNx t n pp))))), .int f2_26, .int p2_26], ar cI aTX 300 fTX] := hD
  exact ret (f2_26, p2_26, (upd fCU (nuV t n (tNx t n pp) 3) (nI (nuV t n (tNx t n (tNx t n pp)) 100)))) _ _ _ _ dX4_readCut_30 (⟨by rw [hq_26.2, hq_14.2, hq_9], rfl⟩) (hP.sub [2, 3, 0, 1] rfl) (hD.sub [2, 3, 0, 1] (by decide) rfl) hS
abbrev r_c_X4_readMove : Room := { frames := 3, cells := 0, slots := 0, locals := 62 }
set_option maxHeartbeats 4000000 in
set_option maxRecDepth 100000 in
theorem c_X4_readMove (l : Launch) (D : va_G) (cI cZ : ClassId) (aR : Nat) (aTX : Nat) (aD : Nat) (aCU : Nat) (aMV : Nat) (fTX : Nat → Int32) (t : Nat → Int32) (n : Nat) (pp : Nat) (fMV : Nat → Int32) (sp : Int32) (bf : Int32) (ln : Int32) (fa : Int32) (fp : Int32) (hn : n ≤ 300) (hp : pp ≤ n) (ht : ∀ j, j < n → fTX j = t j) : MV l yX4_readMove wsX4_readMove r_c_X4_readMove D cI cZ [.ref aR, .ref aD] [ob aR 4 [.ref aTX, .int (nI n), .int (tKd t n pp), .int (nI (tSt t n pp)), .int (nI (tNx t n pp)), .int fa, .int fp], ar cI aTX 300 fTX, ob aD 2 [.ref aCU, .ref aMV, .int sp, .int bf, .int ln], ar cI aMV 4 fMV] (fun (u : Int32 × Int32 × (Nat → Int32)) => (u.1, u.2.1) = nuB t n (tNx t n (tNx t n pp)) 3 (nuB t n (tNx t n pp) 3 (rkB t n (tNx t n pp) fMV (fa, fp))) ∧ u.2.2 = upd fMV (nuV t n (tNx t n pp) 3) (nI (nuV t n (tNx t n (tNx t n pp)) 3))) (fun (u : Int32 × Int32 × (Nat → Int32)) => [ob aR 4 [.ref aTX, .int (nI n), .int (tKd t n (tNx t n (tNx t n (tNx t n pp)))), .int (nI (tSt t n (tNx t n (tNx t n (tNx t n pp))))), .int (nI (tNx t n (tNx t n (tNx t n (tNx t n pp))))), .int u.1, .int u.2.1], ar cI aTX 300 fTX, ob aD 2 [.ref aCU, .ref aMV, .int sp, .int bf, .int ln], ar cI aMV 4 u.2.2]) 0 0 := by
  refine MV.of (cc := cX4_readMove) (maxL := 3) (by decide) rfl (Nat.le_of_ble_eq_true rfl) ?_
  intro p e s m below meth c A Q hx hb hml hown hts hN hK hA ret hP hD hS ls hl hmn
  have hown : s.vm.findClass RX4 = some m.cls := hown
  have inX2 : ∀ w ∈ wsX20, w ∈ wsX4_readMove := by decide +kernel
  have fl103 : (Cond.fieldLinkNest RX4 103 "AdvanceBook$Decree" "moves" "[I" "AdvanceBook").before (([.ref aR, .ref aD] : List Value).toArray) s = true := nest_useF hN (by decide +kernel)
  have hP : va_P D vwCl [ob aR 4 [.ref aTX, .int (nI n), .int (tKd t n pp), .int (nI (tSt t n pp)), .int (nI (tNx t n pp)), .int fa, .int fp], ar cI aTX 300 fTX, ob aD 2 [.ref aCU, .ref aMV, .int sp, .int bf, .int ln], ar cI aMV 4 fMV] s.heap := hP
  have hD : va_D A [ob aR 4 [.ref aTX, .int (nI n), .int (tKd t n pp), .int (nI (tSt t n pp)), .int (nI (tNx t n pp)), .int fa, .int fp], ar cI aTX 300 fTX, ob aD 2 [.ref aCU, .ref aMV, .int sp, .int bf, .int ln], ar cI aMV 4 fMV] := hD
  have hl : lv_has ls 3 [(0, .ref aR), (1, .ref aD)] := hl
  refine lv_aload_n hx hb dX4_readMove_0 rfl (lv_at hl 0 rfl) ?_
  refine m_cVv (As := []) (rest := []) (wr := [ob aD 2 [.ref aCU, .ref aMV, .int sp, .int bf, .int ln], ar cI aMV 4 fMV]) ⟨hx, hb, hml, hown, hts⟩ (c_X4_step l D cI cZ aR aTX fTX t n (tNx t n pp) (tKd t n pp) (nI (tSt t n pp)) fa fp (by first | assumption | omega) (tNx_le (t := t) (by assumption)) (by first | assumption | omega)) (cwV 0 hts gX4_readMove_X4_step rfl rfl rfl (by decide +kernel) ⟨Nat.le_of_ble_eq_true rfl, Nat.le_of_ble_eq_true rfl⟩) hN hK hP hD hS hA [0, 1] [2, 3] rfl rfl (by decide) (by decide) (by decide) 0 (ci := 4) rfl rfl rfl rfl hl.1 rfl (Nat.le_of_ble_eq_true rfl) dX4_readMove_1 ⟨Nat.le_of_ble_eq_true rfl, Nat.le_of_ble_eq_true rfl⟩ (fun u_1 H locs hq_1 hP hD hS => ?_)
  obtain ⟨k2_1, s2_1, n2_1⟩ := u_1
  replace hq_1 : k2_1 = tKd t n (tNx t n pp) ∧ s2_1 = tSt t n (tNx t n pp) ∧ n2_1 = tNx t n (tNx t n pp) := hq_1
  have hP : va_P D vwCl [ob aD 2 [.ref aCU, .ref aMV, .int sp, .int bf, .int ln], ar cI aMV 4 fMV, ob aR 4 [.ref aTX, .int (nI n), .int k2_1, .int (nI s2_1), .int (nI n2_1), .int fa, .int fp], ar cI aTX 300 fTX] H := hP
  have hD : va_D A [ob aD 2 [.ref aCU, .ref aMV, .int sp, .int bf, .int ln], ar cI aMV 4 fMV, ob aR 4 [.ref aTX, .int (nI n), .int k2_1, .int (nI s2_1), .int (nI n2_1), .int fa, .int fp], ar cI aTX 300 fTX] := hD
  obtain ⟨rfl, rfl, rfl⟩ := hq_1
  refine lv_aload_n hx hb dX4_readMove_4 rfl (lv_at hl 0 rfl) ?_
  refine lv_aload_n hx hb dX4_readMove_5 rfl (lv_at hl 1 rfl) ?_
  refine va_getN (D := D) (ci := 2) (v := .ref aMV) (C := RX2) (T := TX2) (N := 5) hx hb hts inX2 hown hK hP 0 rfl rfl 1 (by decide) fl103 (fun _ h9 => h9) rfl dX4_readMove_6 ?_
  refine m_cVv (As := [.ref aMV]) (rest := []) (wr := [ob aD 2 [.ref aCU, .ref aMV, .int sp, .int bf, .int ln]]) ⟨hx, hb, hml, hown, hts⟩ (c_X4_blameRankOf l D cI cZ aR aTX aMV fTX t n (tNx t n pp) fMV fa fp (by first | assumption | omega) (tNx_le (t := t) hp) (by first | assumption | omega)) (cwV 1 hts gX4_readMove_X4_blameRankOf rfl rfl rfl (by decide +kernel) ⟨Nat.le_of_ble_eq_true rfl, Nat.le_of_ble_eq_true rfl⟩) hN hK hP hD hS hA [2, 3, 1] [0] rfl rfl (by decide) (by decide) (by decide) 0 (ci := 4) rfl rfl rfl rfl hl.1 rfl (Nat.le_of_ble_eq_true rfl) dX4_readMove_9 ⟨Nat.le_of_ble_eq_true rfl, Nat.le_of_ble_eq_true rfl⟩ (fun u_9 H locs hq_9 hP hD hS => ?_)
  obtain ⟨f2_9, p2_9⟩ := u_9
  replace hq_9 : (f2_9, p2_9) = rkB t n (tNx t n pp) fMV (fa, fp) := hq_9
  have hP : va_P D vwCl [ob aD 2 [.ref aCU, .ref aMV, .int sp, .int bf, .int ln], ob aR 4 [.ref aTX, .int (nI n), .int (tKd t n (tNx t n pp)), .int (nI (tSt t n (tNx t n pp))), .int (nI (tNx t n (tNx t n pp))), .int f2_9, .int p2_9], ar cI aTX 300 fTX, ar cI aMV 4 fMV] H := hP
  have hD : va_D A [ob aD 2 [.ref aCU, .ref aMV, .int sp, .int bf, .int ln], ob aR 4 [.ref aTX, .int (nI n), .int (tKd t n (tNx t n pp)), .int (nI (tSt t n (tNx t n pp))), .int (nI (tNx t n (tNx t n pp))), .int f2_9, .int p2_9], ar cI aTX 300 fTX, ar cI aMV 4 fMV] := hD
  refine lv_aload_n hx hb dX4_readMove_12 rfl (lv_at hl 0 rfl) ?_
  refine lv_iconst (v := 3) hx hb dX4_readMove_13 (by decide) ?_
  refine m_cVi (As := [.int 3]) (rest := []) (wr := [ob aD 2 [.ref aCU, .ref aMV, .int sp, .int bf, .int ln], ar cI aMV 4 fMV]) ⟨hx, hb, hml, hown, hts⟩ (c_X4_readNumber l D cI cZ aR aTX fTX t n (tNx t n pp) 3 f2_9 p2_9 (by first | assumption | omega) (tNx_le (t := t) hp) (by first | assumption | omega) (by first | assumption | omega)) (cwV 1 hts gX4_readMove_X4_readNumber rfl rfl rfl (by decide +kernel) ⟨Nat.le_of_ble_eq_true rfl, Nat.le_of_ble_eq_true rfl⟩) hN hK hP hD hS hA [1, 2] [0, 3] rfl rfl (by decide) (by decide) (by decide) 0 (ci := 4) rfl rfl rfl rfl hl.1 rfl (Nat.le_of_ble_eq_true rfl) dX4_readMove_14 ⟨Nat.le_of_ble_eq_true rfl, Nat.le_of_ble_eq_true rfl⟩ (fun r_14 u_14 H locs hq_14 hP hD hS => ?_)
  obtain ⟨f2_14, p2_14⟩ := u_14
  replace hq_14 : r_14 = nI (nuV t n (tNx t n pp) 3) ∧ (f2_14, p2_14) = nuB t n (tNx t n pp) 3 (f2_9, p2_9) := hq_14
  have hP : va_P D vwCl [ob aD 2 [.ref aCU, .ref aMV, .int sp, .int bf, .int ln], ar cI aMV 4 fMV, ob aR 4 [.ref aTX, .int (nI n), .int (tKd t n (tNx t n (tNx t n pp))), .int (nI (tSt t n (tNx t n (tNx t n pp)))), .int (nI (tNx t n (tNx t n (tNx t n pp)))), .int f2_14, .int p2_14], ar cI aTX 300 fTX] H := hP
  have hD : va_D A [ob aD 2 [.ref aCU, .ref aMV, .int sp, .int bf, .int ln], ar cI aMV 4 fMV, ob aR 4 [.ref aTX, .int (nI n), .int (tKd t n (tNx t n (tNx t n pp))), .int (nI (tSt t n (tNx t n (tNx t n pp)))), .int (nI (tNx t n (tNx t n (tNx t n pp)))), .int f2_14, .int p2_14], ar cI aTX 300 fTX] := hD
  have hv_14 := hq_14.1
  subst hv_14
  refine lv_istore_n (lv' := [(2, .int (nI (nuV t n (tNx t n pp) 3))), (0, .ref aR), (1, .ref aD)]) hx hb dX4_readMove_17 rfl hl (by decide) rfl (fun ls hl => ?_)
  refine lv_aload_n hx hb dX4_readMove_18 rfl (lv_at hl 2 rfl) ?_
  refine va_getN (D := D) (ci := 2) (v := .ref aMV) (C := RX2) (T := TX2) (N := 5) hx hb hts inX2 hown hK hP 0 rfl rfl 1 (by decide) fl103 (fun _ h9 => h9) rfl dX4_readMove_19 ?_
  refine lv_iload_n hx hb dX4_readMove_22 rfl (lv_at hl 0 rfl) ?_
  refine lv_aload_n hx hb dX4_readMove_23 rfl (lv_at hl 1 rfl) ?_
  refine lv_iconst (v := 3) hx hb dX4_readMove_24 (by decide) ?_
  refine m_cVi (As := [.int 3]) (rest := [.int (nI (nuV t n (tNx t n pp) 3)), .ref aMV]) (wr := [ob aD 2 [.ref aCU, .ref aMV, .int sp, .int bf, .int ln], ar cI aMV 4 fMV]) ⟨hx, hb, hml, hown, hts⟩ (c_X4_readNumber l D cI cZ aR aTX fTX t n (tNx t n (tNx t n pp)) 3 f2_14 p2_14 (by first | assumption | omega) (tNx_le (t := t) (tNx_le (t := t) hp)) (by first | assumption | omega) (by first | assumption | omega)) (cwV 1 hts gX4_readMove_X4_readNumber rfl rfl rfl (by decide +kernel) ⟨Nat.le_of_ble_eq_true rfl, Nat.le_of_ble_eq_true rfl⟩) hN hK hP hD hS hA [2, 3] [0, 1] rfl rfl (by decide) (by decide) (by decide) 0 (ci := 4) rfl rfl rfl rfl hl.1 rfl (Nat.le_of_ble_eq_true rfl) dX4_readMove_25 ⟨Nat.le_of_ble_eq_true rfl, Nat.le_of_ble_eq_true rfl⟩ (fun r_25 u_25 H locs hq_25 hP hD hS => ?_)
  obtain ⟨f2_25, p2_25⟩ := u_25
  replace hq_25 : r_25 = nI (nuV t n (tNx t n (tNx t n pp)) 3) ∧ (f2_25, p2_25) = nuB t n (tNx t n (tNx t n pp)) 3 (f2_14, p2_14) := hq_25
  have hP : va_P D vwCl [ob aD 2 [.ref aCU, .ref aMV, .int sp, .int bf, .int ln], ar cI aMV 4 fMV, ob aR 4 [.ref aTX, .int (nI n), .int (tKd t n (tNx t n (tNx t n (tNx t n pp)))), .int (nI (tSt t n (tNx t n (tNx t n (tNx t n pp))))), .int (nI (tNx t n (tNx t n (tNx t n (tNx t n pp))))), .int f2_25, .int p2_25], ar cI aTX 300 fTX] H := hP
  have hD : va_D A [ob aD 2 [.ref aCU, .ref aMV, .int sp, .int bf, .int ln], ar cI aMV 4 fMV, ob aR 4 [.ref aTX, .int (nI n), .int (tKd t n (tNx t n (tNx t n (tNx t n pp)))), .int (nI (tSt t n (tNx t n (tNx t n (tNx t n pp))))), .int (nI (tNx t n (tNx t n (tNx t n (tNx t n pp))))), .int f2_25, .int p2_25], ar cI aTX 300 fTX] := hD
  have hv_25 := hq_25.1
  subst hv_25
  refine m_iast (k := (nuV t n (tNx t n pp) 3)) (x := (nI (nuV t n (tNx t n (tNx t n pp)) 3))) hx hb hK hP hD hS 1 0 rfl rfl (Nat.lt_of_le_of_lt nuV_le (by decide)) (by decide) dX4_readMove_28 (fun H locs hP hD hS => ?_)
  have hP : va_P D vwCl [ob aD 2 [.ref aCU, .ref aMV, .int sp, .int bf, .int ln], ar cI aMV 4 (upd fMV (nuV t n (tNx t n pp) 3) (nI (nuV t n (tNx t n (tNx t n pp)) 3))), ob aR 4 [.ref aTX, .int (nI n), .int (tKd t n (tNx t n (tNx t n (tNx t n pp)))), .int (nI (tSt t n (tNx t n (tNx t n (tNx t n pp))))), .int (nI (tNx t n (tNx t n (tNx t n (tNx t n pp))))), .int f2_25, .int p2_25], ar cI aTX 300 fTX] H := hP
  have hD : va_D A [ob aD 2 [.ref aCU, .ref aMV, .int sp, .int bf, .int ln], ar cI aMV 4 (upd fMV (nuV t n (tNx t n pp) 3) (nI (nuV t n (tNx t n (tNx t n pp)) 3))), ob aR 4 [.ref aTX, .int (nI n), .int (tKd t n (tNx t n (tNx t n (tNx t n pp)))), .int (nI (tSt t n (tNx t n (tNx t n (tNx t n pp))))), .int (nI (tNx t n (tNx t n (tNx t n (tNx t n pp))))), .int f2_25, .int p2_25], ar cI aTX 300 fTX] := hD
  exact ret (f2_25, p2_25, (upd fMV (nuV t n (tNx t n pp) 3) (nI (nuV t n (tNx t n (tNx t n pp)) 3)))) _ _ _ _ dX4_readMove_29 (⟨by rw [hq_25.2, hq_14.2, hq_9], rfl⟩) (hP.sub [2, 3, 0, 1] rfl) (hD.sub [2, 3, 0, 1] (by decide) rfl) hS
abbrev r_c_X4_readSpare : Room := { frames := 3, cells := 0, slots := 0, locals := 62 }
set_option maxHeartbeats 4000000 in
set_option maxRecDepth 100000 in
theorem c_X4_readSpare (l : Launch) (D : va_G) (cI cZ : ClassId) (aR : Nat) (aTX : Nat) (aD : Nat) (aCU : Nat) (aMV : Nat) (fTX : Nat → Int32) (t : Nat → Int32) (n : Nat) (pp : Nat) (sp : Int32) (bf : Int32) (ln : Int32) (fa : Int32) (fp : Int32) (hn : n ≤ 300) (hp : pp ≤ n) (ht : ∀ j, j < n → fTX j = t j) : MV l yX4_readSpare wsX4_readSpare r_c_X4_readSpare D cI cZ [.ref aR, .ref aD] [ob aR 4 [.ref aTX, .int (nI n), .int (tKd t n pp), .int (nI (tSt t n pp)), .int (nI (tNx t n pp)), .int fa, .int fp], ar cI aTX 300 fTX, ob aD 2 [.ref aCU, .ref aMV, .int sp, .int bf, .int ln]] (fun (u : Int32 × Int32 × Int32) => (u.1, u.2.1) = nuB t n (tNx t n pp) 999 (if sp = -1 then (fa, fp) else blF (fa, fp) 3 (nI (tSt t n pp))) ∧ u.2.2 = nI (nuV t n (tNx t n pp) 999)) (fun (u : Int32 × Int32 × Int32) => [ob aR 4 [.ref aTX, .int (nI n), .int (tKd t n (tNx t n (tNx t n pp))), .int (nI (tSt t n (tNx t n (tNx t n pp)))), .int (nI (tNx t n (tNx t n (tNx t n pp)))), .int u.1, .int u.2.1], ar cI aTX 300 fTX, ob aD 2 [.ref aCU, .ref aMV, .int u.2.2, .int bf, .int ln]]) 0 0 := by
  refine MV.of (cc := cX4_readSpare) (maxL := 2) (by decide) rfl (Nat.le_of_ble_eq_true rfl) ?_
  intro p e s m below meth c A Q hx hb hml hown hts hN hK hA ret hP hD hS ls hl hmn
  have hown : s.vm.findClass RX4 = some m.cls := hown
  have inX2 : ∀ w ∈ wsX20, w ∈ wsX4_readSpare := by decide +kernel
  have fl106 : (Cond.fieldLinkNest RX4 106 "AdvanceBook$Decree" "spare" "I" "AdvanceBook").before (([.ref aR, .ref aD] : List Value).toArray) s = true := nest_useF hN (by decide +kernel)
  have hP : va_P D vwCl [ob aR 4 [.ref aTX, .int (nI n), .int (tKd t n pp), .int (nI (tSt t n pp)), .int (nI (tNx t n pp)), .int fa, .int fp], ar cI aTX 300 fTX, ob aD 2 [.ref aCU, .ref aMV, .int sp, .int bf, .int ln]] s.heap := hP
  have hD : va_D A [ob aR 4 [.ref aTX, .int (nI n), .int (tKd t n pp), .int (nI (tSt t n pp)), .int (nI (tNx t n pp)), .int fa, .int fp], ar cI aTX 300 fTX, ob aD 2 [.ref aCU, .ref aMV, .int sp, .int bf, .int ln]] := hD
  have hl : lv_has ls 2 [(0, .ref aR), (1, .ref aD)] := hl
  refine lv_aload_n hx hb dX4_readSpare_0 rfl (lv_at hl 1 rfl) ?_
  refine va_getN (D := D) (ci := 2) (v := .int sp) (C := RX2) (T := TX2) (N := 5) hx hb hts inX2 hown hK hP 2 rfl rfl 2 (by decide) fl106 (fun _ h9 => h9) rfl dX4_readSpare_1 ?_
  refine lv_iconst (v := (-1)) hx hb dX4_readSpare_4 (by decide) ?_
  refine lv_icmp_eq (tgt := 13) hx hb dX4_readSpare_5 (by decide) (fun c_5 => ?_) (fun c_5 => ?_)
  · skip
    refine lv_aload_n hx hb dX4_readSpare_13 rfl (lv_at hl 0 rfl) ?_
    refine m_cVv (As := []) (rest := []) (wr := [ob aD 2 [.ref aCU, .ref aMV, .int sp, .int bf, .int ln]]) ⟨hx, hb, hml, hown, hts⟩ (c_X4_step l D cI cZ aR aTX fTX t n (tNx t n pp) (tKd t n pp) (nI (tSt t n pp)) fa fp (by first | assumption | omega) (tNx_le (t := t) (by assumption)) (by first | assumption | omega)) (cwV 0 hts gX4_readSpare_X4_step rfl rfl rfl (by decide +kernel) ⟨Nat.le_of_ble_eq_true rfl, Nat.le_of_ble_eq_true rfl⟩) hN hK hP hD hS hA [0, 1] [2] rfl rfl (by decide) (by decide) (by decide) 0 (ci := 4) rfl rfl rfl rfl hl.1 rfl (Nat.le_of_ble_eq_true rfl) dX4_readSpare_14 ⟨Nat.le_of_ble_eq_true rfl, Nat.le_of_ble_eq_true rfl⟩ (fun u_14 H locs hq_14 hP hD hS => ?_)
    obtain ⟨k2_14, s2_14, n2_14⟩ := u_14
    replace hq_14 : k2_14 = tKd t n (tNx t n pp) ∧ s2_14 = tSt t n (tNx t n pp) ∧ n2_14 = tNx t n (tNx t n pp) := hq_14
    have hP : va_P D vwCl [ob aD 2 [.ref aCU, .ref aMV, .int sp, .int bf, .int ln], ob aR 4 [.ref aTX, .int (nI n), .int k2_14, .int (nI s2_14), .int (nI n2_14), .int fa, .int fp], ar cI aTX 300 fTX] H := hP
    have hD : va_D A [ob aD 2 [.ref aCU, .ref aMV, .int sp, .int bf, .int ln], ob aR 4 [.ref aTX, .int (nI n), .int k2_14, .int (nI s2_14), .int (nI n2_14), .int fa, .int fp], ar cI aTX 300 fTX] := hD
    obtain ⟨rfl, rfl, rfl⟩ := hq_14
    refine lv_aload_n hx hb dX4_readSpare_17 rfl (lv_at hl 1 rfl) ?_
    refine lv_aload_n hx hb dX4_readSpare_18 rfl (lv_at hl 0 rfl) ?_
    refine lv_sipush (v := 999) hx hb dX4_readSpare_19 (by decide) ?_
    refine m_cVi (As := [.int 999]) (rest := [.ref aD]) (wr := [ob aD 2 [.ref aCU, .ref aMV, .int sp, .int bf, .int ln]]) ⟨hx, hb, hml, hown, hts⟩ (c_X4_readNumber l D cI cZ aR aTX fTX t n (tNx t n pp) 999 fa fp (by first | assumption | omega) (tNx_le (t := t) hp) (by first | assumption | omega) (by first | assumption | omega)) (cwV 1 hts gX4_readSpare_X4_readNumber rfl rfl rfl (by decide +kernel) ⟨Nat.le_of_ble_eq_true rfl, Nat.le_of_ble_eq_true rfl⟩) hN hK hP hD hS hA [1, 2] [0] rfl rfl (by decide) (by decide) (by decide) 0 (ci := 4) rfl rfl rfl rfl hl.1 rfl (Nat.le_of_ble_eq_true rfl) dX4_readSpare_22 ⟨Nat.le_of_ble_eq_true rfl, Nat.le_of_ble_eq_true rfl⟩ (fun r_22 u_22 H locs hq_22 hP hD hS => ?_)
    obtain ⟨f2_22, p2_22⟩ := u_22
    replace hq_22 : r_22 = nI (nuV t n (tNx t n pp) 999) ∧ (f2_22, p2_22) = nuB t n (tNx t n pp) 999 (fa, fp) := hq_22
    have hP : va_P D vwCl [ob aD 2 [.ref aCU, .ref aMV, .int sp, .int bf, .int ln], ob aR 4 [.ref aTX, .int (nI n), .int (tKd t n (tNx t n (tNx t n pp))), .int (nI (tSt t n (tNx t n (tNx t n pp)))), .int (nI (tNx t n (tNx t n (tNx t n pp)))), .int f2_22, .int p2_22], ar cI aTX 300 fTX] H := hP
    have hD : va_D A [ob aD 2 [.ref aCU, .ref aMV, .int sp, .int bf, .int ln], ob aR 4 [.ref aTX, .int (nI n), .int (tKd t n (tNx t n (tNx t n pp))), .int (nI (tSt t n (tNx t n (tNx t n pp)))), .int (nI (tNx t n (tNx t n (tNx t n pp)))), .int f2_22, .int p2_22], ar cI aTX 300 fTX] := hD
    refine va_putN (D := D) (ci := 2) (v := .int r_22) (ty := .int) (C := RX2) (T := TX2) (N := 5) hx hb hts inX2 tyX2 tyX2_ok nmX2 hown hK hP hD hS 0 rfl rfl 2 (by decide) fl106 (fun _ h9 => h9) rfl (by decide +kernel) (rfl) (rfl) (Nat.le_of_ble_eq_true rfl) dX4_readSpare_25 (fun H locs hP hD hS => ?_)
    have hP : va_P D vwCl [ob aD 2 [.ref aCU, .ref aMV, .int r_22, .int bf, .int ln], ob aR 4 [.ref aTX, .int (nI n), .int (tKd t n (tNx t n (tNx t n pp))), .int (nI (tSt t n (tNx t n (tNx t n pp)))), .int (nI (tNx t n (tNx t n (tNx t n pp)))), .int f2_22, .int p2_22], ar cI aTX 300 fTX] H := hP
    have hD : va_D A [ob aD 2 [.ref aCU, .ref aMV, .int r_22, .int bf, .int ln], ob aR 4 [.ref aTX, .int (nI n), .int (tKd t n (tNx t n (tNx t n pp))), .int (nI (tSt t n (tNx t n (tNx t n pp)))), .int (nI (tNx t n (tNx t n (tNx t n pp)))), .int f2_22, .int p2_22], ar cI aTX 300 fTX] := hD
    exact ret (f2_22, p2_22, r_22) _ _ _ _ dX4_readSpare_28 (by refine ⟨?_, hq_22.1⟩; rw [hq_22.2]; grind) (hP.sub [1, 2, 0] rfl) (hD.sub [1, 2, 0] (by decide) rfl) hS
  · skip
    refine lv_aload_n hx hb dX4_readSpare_8 rfl (lv_at hl 0 rfl) ?_
    refine lv_iconst (v := 3) hx hb dX4_readSpare_9 (by decide) ?_
    refine m_cVv (As := [.int 3]) (rest := []) (wr := [ar cI aTX 300 fTX, ob aD 2 [.ref aCU, .ref aMV, .int sp, .int bf, .int ln]]) ⟨hx, hb, hml, hown, hts⟩ (c_X4_blame l D cI cZ aR aTX n (tKd t n pp) (nI (tSt t n pp)) (nI (tNx t n pp)) fa fp 3 ) (cwV 1 hts gX4_readSpare_X4_blame rfl rfl rfl (by decide +kernel) ⟨Nat.le_of_ble_eq_true rfl, Nat.le_of_ble_eq_true rfl⟩) hN hK hP hD hS hA [0] [1, 2] rfl rfl (by decide) (by decide) (by decide) 0 (ci := 4) rfl rfl rfl rfl hl.1 rfl (Nat.le_of_ble_eq_true rfl) dX4_readSpare_10 ⟨Nat.le_of_ble_eq_true rfl, Nat.le_of_ble_eq_true rfl⟩ (fun u_10 H locs hq_10 hP hD hS => ?_)
    obtain ⟨f2_10, p2_10⟩ := u_10
    replace hq_10 : (f2_10, p2_10) = blF (fa, fp) 3 (nI (tSt t n pp)) := hq_10
    have hP : va_P D vwCl [ar cI aTX 300 fTX, ob aD 2 [.ref aCU, .ref aMV, .int sp, .int bf, .int ln], ob aR 4 [.ref aTX, .int (nI n), .int (tKd t n pp), .int (nI (tSt t n pp)), .int (nI (tNx t n pp)), .int f2_10, .int p2_10]] H := hP
    have hD : va_D A [ar cI aTX 300 fTX, ob aD 2 [.ref aCU, .ref aMV, .int sp, .int bf, .int ln], ob aR 4 [.ref aTX, .int (nI n), .int (tKd t n pp), .int (nI (tSt t n pp)), .int (nI (tNx t n pp)), .int f2_10, .int p2_10]] := hD
    refine lv_aload_n hx hb dX4_readSpare_13 rfl (lv_at hl 0 rfl) ?_
    refine m_cVv (As := []) (rest := []) (wr := [ob aD 2 [.ref aCU, .ref aMV, .int sp, .int bf, .int ln]]) ⟨hx, hb, hml, hown, hts⟩ (c_X4_step l D cI cZ aR aTX fTX t n (tNx t n pp) (tKd t n pp) (nI (tSt t n pp)) f2_10 p2_10 (by first | assumption | omega) (tNx_le (t := t) (by assumption)) (by first | assumption | omega)) (cwV 0 hts gX4_readSpare_X4_step rfl rfl rfl (by decide +kernel) ⟨Nat.le_of_ble_eq_true rfl, Nat.le_of_ble_eq_true rfl⟩) hN hK hP hD hS hA [2, 0] [1] rfl rfl (by decide) (by decide) (by decide) 0 (ci := 4) rfl rfl rfl rfl hl.1 rfl (Nat.le_of_ble_eq_true rfl) dX4_readSpare_14 ⟨Nat.le_of_ble_eq_true rfl, Nat.le_of_ble_eq_true rfl⟩ (fun u_14 H locs hq_14 hP hD hS => ?_)
    obtain ⟨k2_14, s2_14, n2_14⟩ := u_14
    replace hq_14 : k2_14 = tKd t n (tNx t n pp) ∧ s2_14 = tSt t n (tNx t n pp) ∧ n2_14 = tNx t n (tNx t n pp) := hq_14
    have hP : va_P D vwCl [ob aD 2 [.ref aCU, .ref aMV, .int sp, .int bf, .int ln], ob aR 4 [.ref aTX, .int (nI n), .int k2_14, .int (nI s2_14), .int (nI n2_14), .int f2_10, .int p2_10], ar cI aTX 300 fTX] H := hP
    have hD : va_D A [ob aD 2 [.ref aCU, .ref aMV, .int sp, .int bf, .int ln], ob aR 4 [.ref aTX, .int (nI n), .int k2_14, .int (nI s2_14), .int (nI n2_14), .int f2_10, .int p2_10], ar cI aTX 300 fTX] := hD
    obtain ⟨rfl, rfl, rfl⟩ := hq_14
    refine lv_aload_n hx hb dX4_readSpare_17 rfl (lv_at hl 1 rfl) ?_
    refine lv_aload_n hx hb dX4_readSpare_18 rfl (lv_at hl 0 rfl) ?_
    refine lv_sipush (v := 999) hx hb dX4_readSpare_19 (by decide) ?_
    refine m_cVi (As := [.int 999]) (rest := [.ref aD]) (wr := [ob aD 2 [.ref aCU, .ref aMV, .int sp, .int bf, .int ln]]) ⟨hx, hb, hml, hown, hts⟩ (c_X4_readNumber l D cI cZ aR aTX fTX t n (tNx t n pp) 999 f2_10 p2_10 (by first | assumption | omega) (tNx_le (t := t) hp) (by first | assumption | omega) (by first | assumption | omega)) (cwV 1 hts gX4_readSpare_X4_readNumber rfl rfl rfl (by decide +kernel) ⟨Nat.le_of_ble_eq_true rfl, Nat.le_of_ble_eq_true rfl⟩) hN hK hP hD hS hA [1, 2] [0] rfl rfl (by decide) (by decide) (by decide) 0 (ci := 4) rfl rfl rfl rfl hl.1 rfl (Nat.le_of_ble_eq_true rfl) dX4_readSpare_22 ⟨Nat.le_of_ble_eq_true rfl, Nat.le_of_ble_eq_true rfl⟩ (fun r_22 u_22 H locs hq_22 hP hD hS => ?_)
    obtain ⟨f2_22, p2_22⟩ := u_22
    replace hq_22 : r_22 = nI (nuV t n (tNx t n pp) 999) ∧ (f2_22, p2_22) = nuB t n (tNx t n pp) 999 (f2_10, p2_10) := hq_22
    have hP : va_P D vwCl [ob aD 2 [.ref aCU, .ref aMV, .int sp, .int bf, .int ln], ob aR 4 [.ref aTX, .int (nI n), .int (tKd t n (tNx t n (tNx t n pp))), .int (nI (tSt t n (tNx t n (tNx t n pp)))), .int (nI (tNx t n (tNx t n (tNx t n pp)))), .int f2_22, .int p2_22], ar cI aTX 300 fTX] H := hP
    have hD : va_D A [ob aD 2 [.ref aCU, .ref aMV, .int sp, .int bf, .int ln], ob aR 4 [.ref aTX, .int (nI n), .int (tKd t n (tNx t n (tNx t n pp))), .int (nI (tSt t n (tNx t n (tNx t n pp)))), .int (nI (tNx t n (tNx t n (tNx t n pp)))), .int f2_22, .int p2_22], ar cI aTX 300 fTX] := hD
    refine va_putN (D := D) (ci := 2) (v := .int r_22) (ty := .int) (C := RX2) (T := TX2) (N := 5) hx hb hts inX2 tyX2 tyX2_ok nmX2 hown hK hP hD hS 0 rfl rfl 2 (by decide) fl106 (fun _ h9 => h9) rfl (by decide +kernel) (rfl) (rfl) (Nat.le_of_ble_eq_true rfl) dX4_readSpare_25 (fun H locs hP hD hS => ?_)
    have hP : va_P D vwCl [ob aD 2 [.ref aCU, .ref aMV, .int r_22, .int bf, .int ln], ob aR 4 [.ref aTX, .int (nI n), .int (tKd t n (tNx t n (tNx t n pp))), .int (nI (tSt t n (tNx t n (tNx t n pp)))), .int (nI (tNx t n (tNx t n (tNx t n pp)))), .int f2_22, .int p2_22], ar cI aTX 300 fTX] H := hP
    have hD : va_D A [ob aD 2 [.ref aCU, .ref aMV, .int r_22, .int bf, .int ln], ob aR 4 [.ref aTX, .int (nI n), .int (tKd t n (tNx t n (tNx t n pp))), .int (nI (tSt t n (tNx t n (tNx t n pp)))), .int (nI (tNx t n (tNx t n (tNx t n pp)))), .int f2_22, .int p2_22], ar cI aTX 300 fTX] := hD
    exact ret (f2_22, p2_22, r_22) _ _ _ _ dX4_readSpare_28 (by refine ⟨?_, hq_22.1⟩; rw [hq_22.2]; grind) (hP.sub [1, 2, 0] rfl) (hD.sub [1, 2, 0] (by decide) rfl) hS
abbrev r_c_X4_readBefore : Room := { frames := 3, cells := 0, slots := 0, locals := 62 }
set_option maxHeartbeats 4000000 in
set_option maxRecDepth 100000 in
theorem c_X4_readBefore (l : Launch) (D : va_G) (cI cZ : ClassId) (aR : Nat) (aTX : Nat) (aD : Nat) (aCU : Nat) (aMV : Nat) (fTX : Nat → Int32) (t : Nat → Int32) (n : Nat) (pp : Nat) (sp : Int32) (bf : Int32) (ln : Int32) (fa : Int32) (fp : Int32) (hn : n ≤ 300) (hp : pp ≤ n) (ht : ∀ j, j < n → fTX j = t j) : MV l yX4_readBefore wsX4_readBefore r_c_X4_readBefore D cI cZ [.ref aR, .ref aD] [ob aR 4 [.ref aTX, .int (nI n), .int (tKd t n pp), .int (nI (tSt t n pp)), .int (nI (tNx t n pp)), .int fa, .int fp], ar cI aTX 300 fTX, ob aD 2 [.ref aCU, .ref aMV, .int sp, .int bf, .int ln]] (fun (u : Int32 × Int32 × Int32) => (u.1, u.2.1) = nuB t n (tNx t n pp) 999 (if bf = -1 then (fa, fp) else blF (fa, fp) 3 (nI (tSt t n pp))) ∧ u.2.2 = nI (nuV t n (tNx t n pp) 999)) (fun (u : Int32 × Int32 × Int32) => [ob aR 4 [.ref aTX, .int (nI n), .int (tKd t n (tNx t n (tNx t n pp))), .int (nI (tSt t n (tNx t n (tNx t n pp)))), .int (nI (tNx t n (tNx t n (tNx t n pp)))), .int u.1, .int u.2.1], ar cI aTX 300 fTX, ob aD 2 [.ref aCU, .ref aMV, .int sp, .int u.2.2, .int ln]]) 0 0 := by
  refine MV.of (cc := cX4_readBefore) (maxL := 2) (by decide) rfl (Nat.le_of_ble_eq_true rfl) ?_
  intro p e s m below meth c A Q hx hb hml hown hts hN hK hA ret hP hD hS ls hl hmn
  have hown : s.vm.findClass RX4 = some m.cls := hown
  have inX2 : ∀ w ∈ wsX20, w ∈ wsX4_readBefore := by decide +kernel
  have fl108 : (Cond.fieldLinkNest RX4 108 "AdvanceBook$Decree" "before" "I" "AdvanceBook").before (([.ref aR, .ref aD] : List Value).toArray) s = true := nest_useF hN (by decide +kernel)
  have hP : va_P D vwCl [ob aR 4 [.ref aTX, .int (nI n), .int (tKd t n pp), .int (nI (tSt t n pp)), .int (nI (tNx t n pp)), .int fa, .int fp], ar cI aTX 300 fTX, ob aD 2 [.ref aCU, .ref aMV, .int sp, .int bf, .int ln]] s.heap := hP
  have hD : va_D A [ob aR 4 [.ref aTX, .int (nI n), .int (tKd t n pp), .int (nI (tSt t n pp)), .int (nI (tNx t n pp)), .int fa, .int fp], ar cI aTX 300 fTX, ob aD 2 [.ref aCU, .ref aMV, .int sp, .int bf, .int ln]] := hD
  have hl : lv_has ls 2 [(0, .ref aR), (1, .ref aD)] := hl
  refine lv_aload_n hx hb dX4_readBefore_0 rfl (lv_at hl 1 rfl) ?_
  refine va_getN (D := D) (ci := 2) (v := .int bf) (C := RX2) (T := TX2) (N := 5) hx hb hts inX2 hown hK hP 2 rfl rfl 3 (by decide) fl108 (fun _ h9 => h9) rfl dX4_readBefore_1 ?_
  refine lv_iconst (v := (-1)) hx hb dX4_readBefore_4 (by decide) ?_
  refine lv_icmp_eq (tgt := 13) hx hb dX4_readBefore_5 (by decide) (fun c_5 => ?_) (fun c_5 => ?_)
  · skip
    refine lv_aload_n hx hb dX4_readBefore_13 rfl (lv_at hl 0 rfl) ?_
    refine m_cVv (As := []) (rest := []) (wr := [ob aD 2 [.ref aCU, .ref aMV, .int sp, .int bf, .int ln]]) ⟨hx, hb, hml, hown, hts⟩ (c_X4_step l D cI cZ aR aTX fTX t n (tNx t n pp) (tKd t n pp) (nI (tSt t n pp)) fa fp (by first | assumption | omega) (tNx_le (t := t) (by assumption)) (by first | assumption | omega)) (cwV 0 hts gX4_readBefore_X4_step rfl rfl rfl (by decide +kernel) ⟨Nat.le_of_ble_eq_true rfl, Nat.le_of_ble_eq_true rfl⟩) hN hK hP hD hS hA [0, 1] [2] rfl rfl (by decide) (by decide) (by decide) 0 (ci := 4) rfl rfl rfl rfl hl.1 rfl (Nat.le_of_ble_eq_true rfl) dX4_readBefore_14 ⟨Nat.le_of_ble_eq_true rfl, Nat.le_of_ble_eq_true rfl⟩ (fun u_14 H locs hq_14 hP hD hS => ?_)
    obtain ⟨k2_14, s2_14, n2_14⟩ := u_14
    replace hq_14 : k2_14 = tKd t n (tNx t n pp) ∧ s2_14 = tSt t n (tNx t n pp) ∧ n2_14 = tNx t n (tNx t n pp) := hq_14
    have hP : va_P D vwCl [ob aD 2 [.ref aCU, .ref aMV, .int sp, .int bf, .int ln], ob aR 4 [.ref aTX, .int (nI n), .int k2_14, .int (nI s2_14), .int (nI n2_14), .int fa, .int fp], ar cI aTX 300 fTX] H := hP
    have hD : va_D A [ob aD 2 [.ref aCU, .ref aMV, .int sp, .int bf, .int ln], ob aR 4 [.ref aTX, .int (nI n), .int k2_14, .int (nI s2_14), .int (nI n2_14), .int fa, .int fp], ar cI aTX 300 fTX] := hD
    obtain ⟨rfl, rfl, rfl⟩ := hq_14
    refine lv_aload_n hx hb dX4_readBefore_17 rfl (lv_at hl 1 rfl) ?_
    refine lv_aload_n hx hb dX4_readBefore_18 rfl (lv_at hl 0 rfl) ?_
    refine lv_sipush (v := 999) hx hb dX4_readBefore_19 (by decide) ?_
    refine m_cVi (As := [.int 999]) (rest := [.ref aD]) (wr := [ob aD 2 [.ref aCU, .ref aMV, .int sp, .int bf, .int ln]]) ⟨hx, hb, hml, hown, hts⟩ (c_X4_readNumber l D cI cZ aR aTX fTX t n (tNx t n pp) 999 fa fp (by first | assumption | omega) (tNx_le (t := t) hp) (by first | assumption | omega) (by first | assumption | omega)) (cwV 1 hts gX4_readBefore_X4_readNumber rfl rfl rfl (by decide +kernel) ⟨Nat.le_of_ble_eq_true rfl, Nat.le_of_ble_eq_true rfl⟩) hN hK hP hD hS hA [1, 2] [0] rfl rfl (by decide) (by decide) (by decide) 0 (ci := 4) rfl rfl rfl rfl hl.1 rfl (Nat.le_of_ble_eq_true rfl) dX4_readBefore_22 ⟨Nat.le_of_ble_eq_true rfl, Nat.le_of_ble_eq_true rfl⟩ (fun r_22 u_22 H locs hq_22 hP hD hS => ?_)
    obtain ⟨f2_22, p2_22⟩ := u_22
    replace hq_22 : r_22 = nI (nuV t n (tNx t n pp) 999) ∧ (f2_22, p2_22) = nuB t n (tNx t n pp) 999 (fa, fp) := hq_22
    have hP : va_P D vwCl [ob aD 2 [.ref aCU, .ref aMV, .int sp, .int bf, .int ln], ob aR 4 [.ref aTX, .int (nI n), .int (tKd t n (tNx t n (tNx t n pp))), .int (nI (tSt t n (tNx t n (tNx t n pp)))), .int (nI (tNx t n (tNx t n (tNx t n pp)))), .int f2_22, .int p2_22], ar cI aTX 300 fTX] H := hP
    have hD : va_D A [ob aD 2 [.ref aCU, .ref aMV, .int sp, .int bf, .int ln], ob aR 4 [.ref aTX, .int (nI n), .int (tKd t n (tNx t n (tNx t n pp))), .int (nI (tSt t n (tNx t n (tNx t n pp)))), .int (nI (tNx t n (tNx t n (tNx t n pp)))), .int f2_22, .int p2_22], ar cI aTX 300 fTX] := hD
    refine va_putN (D := D) (ci := 2) (v := .int r_22) (ty := .int) (C := RX2) (T := TX2) (N := 5) hx hb hts inX2 tyX2 tyX2_ok nmX2 hown hK hP hD hS 0 rfl rfl 3 (by decide) fl108 (fun _ h9 => h9) rfl (by decide +kernel) (rfl) (rfl) (Nat.le_of_ble_eq_true rfl) dX4_readBefore_25 (fun H locs hP hD hS => ?_)
    have hP : va_P D vwCl [ob aD 2 [.ref aCU, .ref aMV, .int sp, .int r_22, .int ln], ob aR 4 [.ref aTX, .int (nI n), .int (tKd t n (tNx t n (tNx t n pp))), .int (nI (tSt t n (tNx t n (tNx t n pp)))), .int (nI (tNx t n (tNx t n (tNx t n pp)))), .int f2_22, .int p2_22], ar cI aTX 300 fTX] H := hP
    have hD : va_D A [ob aD 2 [.ref aCU, .ref aMV, .int sp, .int r_22, .int ln], ob aR 4 [.ref aTX, .int (nI n), .int (tKd t n (tNx t n (tNx t n pp))), .int (nI (tSt t n (tNx t n (tNx t n pp)))), .int (nI (tNx t n (tNx t n (tNx t n pp)))), .int f2_22, .int p2_22], ar cI aTX 300 fTX] := hD
    exact ret (f2_22, p2_22, r_22) _ _ _ _ dX4_readBefore_28 (by refine ⟨?_, hq_22.1⟩; rw [hq_22.2]; grind) (hP.sub [1, 2, 0] rfl) (hD.sub [1, 2, 0] (by decide) rfl) hS
  · skip
    refine lv_aload_n hx hb dX4_readBefore_8 rfl (lv_at hl 0 rfl) ?_
    refine lv_iconst (v := 3) hx hb dX4_readBefore_9 (by decide) ?_
    refine m_cVv (As := [.int 3]) (rest := []) (wr := [ar cI aTX 300 fTX, ob aD 2 [.ref aCU, .ref aMV, .int sp, .int bf, .int ln]]) ⟨hx, hb, hml, hown, hts⟩ (c_X4_blame l D cI cZ aR aTX n (tKd t n pp) (nI (tSt t n pp)) (nI (tNx t n pp)) fa fp 3 ) (cwV 1 hts gX4_readBefore_X4_blame rfl rfl rfl (by decide +kernel) ⟨Nat.le_of_ble_eq_true rfl, Nat.le_of_ble_eq_true rfl⟩) hN hK hP hD hS hA [0] [1, 2] rfl rfl (by decide) (by decide) (by decide) 0 (ci := 4) rfl rfl rfl rfl hl.1 rfl (Nat.le_of_ble_eq_true rfl) dX4_readBefore_10 ⟨Nat.le_of_ble_eq_true rfl, Nat.le_of_ble_eq_true rfl⟩ (fun u_10 H locs hq_10 hP hD hS => ?_)
    obtain ⟨f2_10, p2_10⟩ := u_10
    replace hq_10 : (f2_10, p2_10) = blF (fa, fp) 3 (nI (tSt t n pp)) := hq_10
    have hP : va_P D vwCl [ar cI aTX 300 fTX, ob aD 2 [.ref aCU, .ref aMV, .int sp, .int bf, .int ln], ob aR 4 [.ref aTX, .int (nI n), .int (tKd t n pp), .int (nI (tSt t n pp)), .int (nI (tNx t n pp)), .int f2_10, .int p2_10]] H := hP
    have hD : va_D A [ar cI aTX 300 fTX, ob aD 2 [.ref aCU, .ref aMV, .int sp, .int bf, .int ln], ob aR 4 [.ref aTX, .int (nI n), .int (tKd t n pp), .int (nI (tSt t n pp)), .int (nI (tNx t n pp)), .int f2_10, .int p2_10]] := hD
    refine lv_aload_n hx hb dX4_readBefore_13 rfl (lv_at hl 0 rfl) ?_
    refine m_cVv (As := []) (rest := []) (wr := [ob aD 2 [.ref aCU, .ref aMV, .int sp, .int bf, .int ln]]) ⟨hx, hb, hml, hown, hts⟩ (c_X4_step l D cI cZ aR aTX fTX t n (tNx t n pp) (tKd t n pp) (nI (tSt t n pp)) f2_10 p2_10 (by first | assumption | omega) (tNx_le (t := t) (by assumption)) (by first | assumption | omega)) (cwV 0 hts gX4_readBefore_X4_step rfl rfl rfl (by decide +kernel) ⟨Nat.le_of_ble_eq_true rfl, Nat.le_of_ble_eq_true rfl⟩) hN hK hP hD hS hA [2, 0] [1] rfl rfl (by decide) (by decide) (by decide) 0 (ci := 4) rfl rfl rfl rfl hl.1 rfl (Nat.le_of_ble_eq_true rfl) dX4_readBefore_14 ⟨Nat.le_of_ble_eq_true rfl, Nat.le_of_ble_eq_true rfl⟩ (fun u_14 H locs hq_14 hP hD hS => ?_)
    obtain ⟨k2_14, s2_14, n2_14⟩ := u_14
    replace hq_14 : k2_14 = tKd t n (tNx t n pp) ∧ s2_14 = tSt t n (tNx t n pp) ∧ n2_14 = tNx t n (tNx t n pp) := hq_14
    have hP : va_P D vwCl [ob aD 2 [.ref aCU, .ref aMV, .int sp, .int bf, .int ln], ob aR 4 [.ref aTX, .int (nI n), .int k2_14, .int (nI s2_14), .int (nI n2_14), .int f2_10, .int p2_10], ar cI aTX 300 fTX] H := hP
    have hD : va_D A [ob aD 2 [.ref aCU, .ref aMV, .int sp, .int bf, .int ln], ob aR 4 [.ref aTX, .int (nI n), .int k2_14, .int (nI s2_14), .int (nI n2_14), .int f2_10, .int p2_10], ar cI aTX 300 fTX] := hD
    obtain ⟨rfl, rfl, rfl⟩ := hq_14
    refine lv_aload_n hx hb dX4_readBefore_17 rfl (lv_at hl 1 rfl) ?_
    refine lv_aload_n hx hb dX4_readBefore_18 rfl (lv_at hl 0 rfl) ?_
    refine lv_sipush (v := 999) hx hb dX4_readBefore_19 (by decide) ?_
    refine m_cVi (As := [.int 999]) (rest := [.ref aD]) (wr := [ob aD 2 [.ref aCU, .ref aMV, .int sp, .int bf, .int ln]]) ⟨hx, hb, hml, hown, hts⟩ (c_X4_readNumber l D cI cZ aR aTX fTX t n (tNx t n pp) 999 f2_10 p2_10 (by first | assumption | omega) (tNx_le (t := t) hp) (by first | assumption | omega) (by first | assumption | omega)) (cwV 1 hts gX4_readBefore_X4_readNumber rfl rfl rfl (by decide +kernel) ⟨Nat.le_of_ble_eq_true rfl, Nat.le_of_ble_eq_true rfl⟩) hN hK hP hD hS hA [1, 2] [0] rfl rfl (by decide) (by decide) (by decide) 0 (ci := 4) rfl rfl rfl rfl hl.1 rfl (Nat.le_of_ble_eq_true rfl) dX4_readBefore_22 ⟨Nat.le_of_ble_eq_true rfl, Nat.le_of_ble_eq_true rfl⟩ (fun r_22 u_22 H locs hq_22 hP hD hS => ?_)
    obtain ⟨f2_22, p2_22⟩ := u_22
    replace hq_22 : r_22 = nI (nuV t n (tNx t n pp) 999) ∧ (f2_22, p2_22) = nuB t n (tNx t n pp) 999 (f2_10, p2_10) := hq_22
    have hP : va_P D vwCl [ob aD 2 [.ref aCU, .ref aMV, .int sp, .int bf, .int ln], ob aR 4 [.ref aTX, .int (nI n), .int (tKd t n (tNx t n (tNx t n pp))), .int (nI (tSt t n (tNx t n (tNx t n pp)))), .int (nI (tNx t n (tNx t n (tNx t n pp)))), .int f2_22, .int p2_22], ar cI aTX 300 fTX] H := hP
    have hD : va_D A [ob aD 2 [.ref aCU, .ref aMV, .int sp, .int bf, .int ln], ob aR 4 [.ref aTX, .int (nI n), .int (tKd t n (tNx t n (tNx t n pp))), .int (nI (tSt t n (tNx t n (tNx t n pp)))), .int (nI (tNx t n (tNx t n (tNx t n pp)))), .int f2_22, .int p2_22], ar cI aTX 300 fTX] := hD
    refine va_putN (D := D) (ci := 2) (v := .int r_22) (ty := .int) (C := RX2) (T := TX2) (N := 5) hx hb hts inX2 tyX2 tyX2_ok nmX2 hown hK hP hD hS 0 rfl rfl 3 (by decide) fl108 (fun _ h9 => h9) rfl (by decide +kernel) (rfl) (rfl) (Nat.le_of_ble_eq_true rfl) dX4_readBefore_25 (fun H locs hP hD hS => ?_)
    have hP : va_P D vwCl [ob aD 2 [.ref aCU, .ref aMV, .int sp, .int r_22, .int ln], ob aR 4 [.ref aTX, .int (nI n), .int (tKd t n (tNx t n (tNx t n pp))), .int (nI (tSt t n (tNx t n (tNx t n pp)))), .int (nI (tNx t n (tNx t n (tNx t n pp)))), .int f2_22, .int p2_22], ar cI aTX 300 fTX] H := hP
    have hD : va_D A [ob aD 2 [.ref aCU, .ref aMV, .int sp, .int r_22, .int ln], ob aR 4 [.ref aTX, .int (nI n), .int (tKd t n (tNx t n (tNx t n pp))), .int (nI (tSt t n (tNx t n (tNx t n pp)))), .int (nI (tNx t n (tNx t n (tNx t n pp)))), .int f2_22, .int p2_22], ar cI aTX 300 fTX] := hD
    exact ret (f2_22, p2_22, r_22) _ _ _ _ dX4_readBefore_28 (by refine ⟨?_, hq_22.1⟩; rw [hq_22.2]; grind) (hP.sub [1, 2, 0] rfl) (hD.sub [1, 2, 0] (by decide) rfl) hS
