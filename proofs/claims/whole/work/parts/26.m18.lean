abbrev r_c_X4_isWord : Room := { frames := 4, cells := 0, slots := 0, locals := 85 }
set_option maxHeartbeats 4000000 in
set_option maxRecDepth 100000 in
theorem c_X4_isWord (l : Launch) (D : va_G) (cI cZ : ClassId) (ad adv : Nat → Nat) (aR : Nat) (aTX : Nat) (fTX : Nat → Int32) (t : Nat → Int32) (n : Nat) (pp : Nat) (fa : Int32) (fp : Int32) (wi : Nat) (hn : n ≤ 300) (hp : pp ≤ n) (ht : ∀ j, j < n → fTX j = t j) (hwi : wi < 4) : MIE l yX4_isWord wsX4_isWord r_c_X4_isWord D cI cZ ad adv [.ref aR, .ref (ad wi)] [ob aR 4 [.ref aTX, .int (nI n), .int (tKd t n pp), .int (nI (tSt t n pp)), .int (nI (tNx t n pp)), .int fa, .int fp], ar cI aTX 300 fTX] (fun (r : Int32) (u : Unit) => r = if tKd t n pp = 1 ∧ isW t (tSt t n pp) (tNx t n pp) (wO wi) (wL wi) then 1 else 0) (fun (u : Unit) => [ob aR 4 [.ref aTX, .int (nI n), .int (tKd t n pp), .int (nI (tSt t n pp)), .int (nI (tNx t n pp)), .int fa, .int fp], ar cI aTX 300 fTX]) 0 0 := by
  refine MIE.ofZ (cc := cX4_isWord) (maxL := 3) (by decide) rfl (Nat.le_of_ble_eq_true rfl) ?_
  intro p e s m below meth c A Q hx hb hml hown hts hN hK hA hE ret hP hD hS ls hl
  have hown : s.vm.findClass RX4 = some m.cls := hown
  have inX4 : ∀ w ∈ wsX40, w ∈ wsX4_isWord := by decide +kernel
  have fl9 := hts (.fieldLink RX4 9 "AdvanceBook$Reader" "text" "[I") (by decide +kernel)
  have fl19 := hts (.fieldLink RX4 19 "AdvanceBook$Reader" "kind" "I") (by decide +kernel)
  have fl22 := hts (.fieldLink RX4 22 "AdvanceBook$Reader" "start" "I") (by decide +kernel)
  have fl25 := hts (.fieldLink RX4 25 "AdvanceBook$Reader" "next" "I") (by decide +kernel)
  have hP : va_P D vwCl [ob aR 4 [.ref aTX, .int (nI n), .int (tKd t n pp), .int (nI (tSt t n pp)), .int (nI (tNx t n pp)), .int fa, .int fp], ar cI aTX 300 fTX] s.heap := hP
  have hD : va_D A [ob aR 4 [.ref aTX, .int (nI n), .int (tKd t n pp), .int (nI (tSt t n pp)), .int (nI (tNx t n pp)), .int fa, .int fp], ar cI aTX 300 fTX] := hD
  have hl : lv_has ls 3 [(0, .ref aR), (1, .ref (ad wi))] := hl
  refine lv_aload_n hx hb dX4_isWord_0 rfl (lv_at hl 0 rfl) ?_
  refine va_get (D := D) (ci := 4) (v := .int (tKd t n pp)) (C := RX4) (T := TX4) (N := 7) hx hb hts inX4 hown hK hP 0 rfl rfl 2 (by decide) fl19 (fun _ h9 => h9) rfl dX4_isWord_1 ?_
  refine lv_iconst (v := 1) hx hb dX4_isWord_4 (by decide) ?_
  refine lv_icmp_ne (tgt := 24) hx hb dX4_isWord_5 (by decide) (fun c_5 => ?_) (fun c_5 => ?_)
  · skip
    refine lv_iconst (v := 0) hx hb dX4_isWord_24 (by decide) ?_
    exact ret 0 () _ _ _ _ dX4_isWord_25 (Or.inl rfl) (by first | rw [if_neg (fun z => c_5 z.1)] | rw [if_neg (fun z => c_21 (congrArg nI z.2.1.symm))]) (hP) (hD) hS
  · skip
    refine lv_aload_n hx hb dX4_isWord_8 rfl (lv_at hl 0 rfl) ?_
    refine va_get (D := D) (ci := 4) (v := .int (nI (tNx t n pp))) (C := RX4) (T := TX4) (N := 7) hx hb hts inX4 hown hK hP 0 rfl rfl 4 (by decide) fl25 (fun _ h9 => h9) rfl dX4_isWord_9 ?_
    refine lv_aload_n hx hb dX4_isWord_12 rfl (lv_at hl 0 rfl) ?_
    refine va_get (D := D) (ci := 4) (v := .int (nI (tSt t n pp))) (C := RX4) (T := TX4) (N := 7) hx hb hts inX4 hown hK hP 0 rfl rfl 3 (by decide) fl22 (fun _ h9 => h9) rfl dX4_isWord_13 ?_
    refine lv_isub hx hb dX4_isWord_16 ?_
    rw [pk_sub (tNx_ge (t := t) (n := n) (q := pp))]
    refine lv_aload_n hx hb dX4_isWord_17 rfl (lv_at hl 1 rfl) ?_
    refine m_cViE (As := []) (rest := [.int (nI (tNx t n pp - tSt t n pp))]) (wr := [ob aR 4 [.ref aTX, .int (nI n), .int (tKd t n pp), .int (nI (tSt t n pp)), .int (nI (tNx t n pp)), .int fa, .int fp], ar cI aTX 300 fTX]) ⟨hx, hb, hml, hown, hts⟩ (c_J0_length l D cI cZ ad adv wi (by omega)) (cwV 0 hts gX4_isWord_J0_length_8abf5 rfl rfl rfl (by decide +kernel) ⟨Nat.le_of_ble_eq_true rfl, Nat.le_of_ble_eq_true rfl⟩) hN hK hP hD hS hA hE [] [0, 1] rfl rfl (by decide) (by decide) (by decide) (vk_recv hE.1.1 (by omega) hS) rfl hl.1 rfl (Nat.le_of_ble_eq_true rfl) dX4_isWord_18 ⟨Nat.le_of_ble_eq_true rfl, Nat.le_of_ble_eq_true rfl⟩ (fun r_18 u_18 H locs hq_18 hP hD hS => ?_)
    replace hq_18 : r_18 = (nI (lenS.getD wi 0)) := hq_18
    subst hq_18
    have hP : va_P D vwCl [ob aR 4 [.ref aTX, .int (nI n), .int (tKd t n pp), .int (nI (tSt t n pp)), .int (nI (tNx t n pp)), .int fa, .int fp], ar cI aTX 300 fTX] H := hP
    have hD : va_D A [ob aR 4 [.ref aTX, .int (nI n), .int (tKd t n pp), .int (nI (tSt t n pp)), .int (nI (tNx t n pp)), .int fa, .int fp], ar cI aTX 300 fTX] := hD
    have hlw := lenS_wL wi hwi
    rw [hlw]
    refine lv_icmp_eq (tgt := 26) hx hb dX4_isWord_21 (by decide) (fun c_21 => ?_) (fun c_21 => ?_)
    · skip
      have hk1 : tKd t n pp = 1 := (by first | exact c_5 | exact Classical.not_not.mp c_5)
      have hlen : tNx t n pp - tSt t n pp = wL wi := ((nI_eq (by have := tNx_le (t := t) hp; omega) (by have := lenS_lt wi (by omega); omega)).mp c_21)
      refine lv_aload_n hx hb dX4_isWord_26 rfl (lv_at hl 0 rfl) ?_
      refine va_get (D := D) (ci := 4) (v := .int (nI (tSt t n pp))) (C := RX4) (T := TX4) (N := 7) hx hb hts inX4 hown hK hP 0 rfl rfl 3 (by decide) fl22 (fun _ h9 => h9) rfl dX4_isWord_27 ?_
      refine lv_istore_n (lv' := [(2, .int (nI (tSt t n pp))), (0, .ref aR), (1, .ref (ad wi))]) hx hb dX4_isWord_30 rfl hl (by decide) rfl (fun ls hl => ?_)
      have L_31 : ∀ (n_31 : Nat) (k : Nat), (tNx t n pp - k < n_31) → (tSt t n pp ≤ k) → (k ≤ tNx t n pp) → (∀ j, j < k - tSt t n pp → t (tSt t n pp + j) = wdF (wO wi + j)) → ∀ (H : Heap) (locs : List Loc), va_P D vwCl [ob aR 4 [.ref aTX, .int (nI n), .int (tKd t n pp), .int (nI (tSt t n pp)), .int (nI (tNx t n pp)), .int fa, .int fp], ar cI aTX 300 fTX] H → va_D A [ob aR 4 [.ref aTX, .int (nI n), .int (tKd t n pp), .int (nI (tSt t n pp)), .int (nI (tNx t n pp)), .int fa, .int fp], ar cI aTX 300 fTX] → va_S A s.heap H locs → ∀ ls : Array Slot, lv_has ls 3 [(0, .ref aR), (1, .ref (ad wi)), (2, .int (nI k))] → W p l e r_c_X4_isWord s m (([.ref aR, .ref (ad wi)] : List Value).toArray) below meth c H locs 0 0 Q (F0 m 31 ls []) := by
        intro n_31
        induction n_31 with
        | zero => intro k hfu; exact absurd hfu (Nat.not_lt_zero _)
        | succ n_31 ih_31 =>
          intro k hfu_31 h1 h2 hall H locs hP hD hS ls hl
          have hnn := tNx_le (t := t) hp
          refine lv_iload_n hx hb dX4_isWord_31 rfl (lv_at hl 2 rfl) ?_
          refine lv_aload_n hx hb dX4_isWord_32 rfl (lv_at hl 0 rfl) ?_
          refine va_get (D := D) (ci := 4) (v := .int (nI (tNx t n pp))) (C := RX4) (T := TX4) (N := 7) hx hb hts inX4 hown hK hP 0 rfl rfl 4 (by decide) fl25 (fun _ h9 => h9) rfl dX4_isWord_33 ?_
          refine lv_icmp_ge (tgt := 66) hx hb dX4_isWord_36 (by decide) (fun c_36 => ?_) (fun c_36 => ?_)
          · skip
            have k_36 : (tNx t n pp) ≤ k := (nI_leI (a := (tNx t n pp)) (b := k) (by omega) (by omega)).mp c_36
            refine lv_iconst (v := 1) hx hb dX4_isWord_66 (by decide) ?_
            exact ret 1 () _ _ _ _ dX4_isWord_67 (Or.inr rfl) (by rw [if_pos ⟨hk1, hlen.symm, fun j hj => hall j (by omega)⟩]) (hP) (hD) hS
          · skip
            have k_36 : ¬ (tNx t n pp) ≤ k := fun h9 => c_36 ((nI_leI (a := (tNx t n pp)) (b := k) (by omega) (by omega)).mpr h9)
            refine lv_aload_n hx hb dX4_isWord_39 rfl (lv_at hl 0 rfl) ?_
            refine va_get (D := D) (ci := 4) (v := .ref aTX) (C := RX4) (T := TX4) (N := 7) hx hb hts inX4 hown hK hP 0 rfl rfl 0 (by decide) fl9 (fun _ h9 => h9) rfl dX4_isWord_40 ?_
            refine lv_iload_n hx hb dX4_isWord_43 rfl (lv_at hl 2 rfl) ?_
            refine m_iald (k := k) hx hb hK hP 1 0 rfl rfl (by omega) (by decide) dX4_isWord_44 ?_
            refine lv_aload_n hx hb dX4_isWord_45 rfl (lv_at hl 1 rfl) ?_
            refine lv_iload_n hx hb dX4_isWord_46 rfl (lv_at hl 2 rfl) ?_
            refine lv_aload_n hx hb dX4_isWord_47 rfl (lv_at hl 0 rfl) ?_
            refine va_get (D := D) (ci := 4) (v := .int (nI (tSt t n pp))) (C := RX4) (T := TX4) (N := 7) hx hb hts inX4 hown hK hP 0 rfl rfl 3 (by decide) fl22 (fun _ h9 => h9) rfl dX4_isWord_48 ?_
            refine lv_isub hx hb dX4_isWord_51 ?_
            rw [pk_sub h1]
            have hnn9 := tNx_le (t := t) hp
            refine m_cViE (As := [.int (nI (k - tSt t n pp))]) (rest := [.int (fTX k)]) (wr := [ob aR 4 [.ref aTX, .int (nI n), .int (tKd t n pp), .int (nI (tSt t n pp)), .int (nI (tNx t n pp)), .int fa, .int fp], ar cI aTX 300 fTX]) ⟨hx, hb, hml, hown, hts⟩ (c_J0_charAt l D cI cZ ad adv wi (k - tSt t n pp) (by omega) (by rw [lenS_wL wi hwi]; omega)) (cwV 1 hts gX4_isWord_J0_charAt_5068e rfl rfl rfl (by decide +kernel) ⟨Nat.le_of_ble_eq_true rfl, Nat.le_of_ble_eq_true rfl⟩) hN hK hP hD hS hA hE [] [0, 1] rfl rfl (by decide) (by decide) (by decide) (vk_recv hE.1.1 (by omega) hS) rfl hl.1 rfl (Nat.le_of_ble_eq_true rfl) dX4_isWord_52 ⟨Nat.le_of_ble_eq_true rfl, Nat.le_of_ble_eq_true rfl⟩ (fun r_52 u_52 H locs hq_52 hP hD hS => ?_)
            replace hq_52 : r_52 = (chS wi (k - tSt t n pp)) := hq_52
            subst hq_52
            have hP : va_P D vwCl [ob aR 4 [.ref aTX, .int (nI n), .int (tKd t n pp), .int (nI (tSt t n pp)), .int (nI (tNx t n pp)), .int fa, .int fp], ar cI aTX 300 fTX] H := hP
            have hD : va_D A [ob aR 4 [.ref aTX, .int (nI n), .int (tKd t n pp), .int (nI (tSt t n pp)), .int (nI (tNx t n pp)), .int fa, .int fp], ar cI aTX 300 fTX] := hD
            refine lv_icmp_eq (tgt := 60) hx hb dX4_isWord_55 (by decide) (fun c_55 => ?_) (fun c_55 => ?_)
            · skip
              refine lv_iinc (v := (nI (k + 1))) (lv' := [(2, .int (nI (k + 1))), (0, .ref aR), (1, .ref (ad wi))]) hx hb dX4_isWord_60 hl (k := 2) rfl (nI_inc k 1 (by decide)) (by decide) rfl (fun ls hl => ?_)
              refine lv_goto (tgt := 31) hx hb dX4_isWord_63 (by decide) ?_
              exact ih_31 (k + 1) (by omega) (by omega) (by omega) (fun j hj => by by_cases e9 : j = k - tSt t n pp; (subst e9; rw [show tSt t n pp + (k - tSt t n pp) = k by omega, ← ht k (by omega), c_55]; exact chS_wd wi hwi _ (by omega)); exact hall j (by omega)) _ _ (hP) (hD) hS ls (lv_sub hl [1, 2, 0] rfl)
            · skip
              refine lv_iconst (v := 0) hx hb dX4_isWord_58 (by decide) ?_
              exact ret 0 () _ _ _ _ dX4_isWord_59 (Or.inl rfl) (by rw [if_neg (fun z => c_55 (by rw [ht k (by omega), chS_wd wi hwi _ (by omega), ← z.2.2 _ (by omega), show tSt t n pp + (k - tSt t n pp) = k by omega]))]) (hP) (hD) hS
      have hge := tNx_ge (t := t) (n := n) (q := pp)
      exact L_31 ((tNx t n pp - (tSt t n pp)) + 1) (tSt t n pp) (Nat.lt_succ_self _) (by omega) (by omega) (fun j hj => absurd hj (by omega)) _ _ (hP) (hD) hS ls (lv_sub hl [1, 2, 0] rfl)
    · skip
      refine lv_iconst (v := 0) hx hb dX4_isWord_24 (by decide) ?_
      exact ret 0 () _ _ _ _ dX4_isWord_25 (Or.inl rfl) (by first | rw [if_neg (fun z => c_5 z.1)] | rw [if_neg (fun z => c_21 (congrArg nI z.2.1.symm))]) (hP) (hD) hS
abbrev r_c_X4_readLine : Room := { frames := 5, cells := 0, slots := 0, locals := 107 }
set_option maxHeartbeats 4000000 in
set_option maxRecDepth 100000 in
theorem c_X4_readLine (l : Launch) (D : va_G) (cI cZ : ClassId) (ad adv : Nat → Nat) (aR : Nat) (aTX : Nat) (aD : Nat) (aCU : Nat) (aMV : Nat) (fTX : Nat → Int32) (t : Nat → Int32) (n : Nat) (pp : Nat) (fCU : Nat → Int32) (fMV : Nat → Int32) (sp : Int32) (bf : Int32) (ln : Int32) (fp : Int32) (hn : n ≤ 300) (hp : pp ≤ n) (ht : ∀ j, j < n → fTX j = t j) : MVE l yX4_readLine wsX4_readLine r_c_X4_readLine D cI cZ ad adv [.ref aR, .ref aD] [ob aR 4 [.ref aTX, .int (nI n), .int (tKd t n pp), .int (nI (tSt t n pp)), .int (nI (tNx t n pp)), .int 0, .int fp], ar cI aTX 300 fTX, ob aD 2 [.ref aCU, .ref aMV, .int sp, .int bf, .int ln], ar cI aCU 4 fCU, ar cI aMV 4 fMV] (fun (u : Nat × Int32 × Int32 × Int32 × Int32 × (Nat → Int32) × (Nat → Int32)) => u.1 ≤ n ∧ clsL t n (ruC u.2.2.2.2.2.1 u.2.2.2.2.2.2 u.2.2.2.1 u.2.2.2.2.1) u.1 u.2.1 u.2.2.1 fp (lineF t n pp (ruC fCU fMV sp bf))) (fun (u : Nat × Int32 × Int32 × Int32 × Int32 × (Nat → Int32) × (Nat → Int32)) => [ob aR 4 [.ref aTX, .int (nI n), .int (tKd t n u.1), .int (nI (tSt t n u.1)), .int (nI (tNx t n u.1)), .int u.2.1, .int u.2.2.1], ar cI aTX 300 fTX, ob aD 2 [.ref aCU, .ref aMV, .int u.2.2.2.1, .int u.2.2.2.2.1, .int (ln + 1)], ar cI aCU 4 u.2.2.2.2.2.1, ar cI aMV 4 u.2.2.2.2.2.2]) 0 0 := by
  refine MVE.of (cc := cX4_readLine) (maxL := 2) (by decide) rfl (Nat.le_of_ble_eq_true rfl) ?_
  intro p e s m below meth c A Q hx hb hml hown hts hN hK hA hE ret hP hD hS ls hl hmn
  have hown : s.vm.findClass RX4 = some m.cls := hown
  have inX2 : ∀ w ∈ wsX20, w ∈ wsX4_readLine := by decide +kernel
  have fl89 : (Cond.fieldLinkNest RX4 89 "AdvanceBook$Decree" "lines" "I" "AdvanceBook").before (([.ref aR, .ref aD] : List Value).toArray) s = true := nest_useF hN (by decide +kernel)
  have hP : va_P D vwCl [ob aR 4 [.ref aTX, .int (nI n), .int (tKd t n pp), .int (nI (tSt t n pp)), .int (nI (tNx t n pp)), .int 0, .int fp], ar cI aTX 300 fTX, ob aD 2 [.ref aCU, .ref aMV, .int sp, .int bf, .int ln], ar cI aCU 4 fCU, ar cI aMV 4 fMV] s.heap := hP
  have hD : va_D A [ob aR 4 [.ref aTX, .int (nI n), .int (tKd t n pp), .int (nI (tSt t n pp)), .int (nI (tNx t n pp)), .int 0, .int fp], ar cI aTX 300 fTX, ob aD 2 [.ref aCU, .ref aMV, .int sp, .int bf, .int ln], ar cI aCU 4 fCU, ar cI aMV 4 fMV] := hD
  have hl : lv_has ls 2 [(0, .ref aR), (1, .ref aD)] := hl
  refine lv_aload_n hx hb dX4_readLine_0 rfl (lv_at hl 0 rfl) ?_
  refine va_ldcS hx hb hown hE.2.1.1 dX4_readLine_1 ?_
  refine m_cViE (As := [.ref (ad 0)]) (rest := []) (wr := [ob aD 2 [.ref aCU, .ref aMV, .int sp, .int bf, .int ln], ar cI aCU 4 fCU, ar cI aMV 4 fMV]) ⟨hx, hb, hml, hown, hts⟩ (c_X4_isWord l D cI cZ ad adv aR aTX fTX t n pp 0 fp 0 (by first | assumption | omega) (by first | assumption | omega) (by first | assumption | omega) (by decide)) (cwV 1 hts gX4_readLine_X4_isWord rfl rfl rfl (by decide +kernel) ⟨Nat.le_of_ble_eq_true rfl, Nat.le_of_ble_eq_true rfl⟩) hN hK hP hD hS hA hE [0, 1] [2, 3, 4] rfl rfl (by decide) (by decide) (by decide) (va_recv hK hP (q0 := 0) (ci := 4) (q := (RX4, TX4, 7)) rfl rfl) rfl hl.1 rfl (Nat.le_of_ble_eq_true rfl) dX4_readLine_3 ⟨Nat.le_of_ble_eq_true rfl, Nat.le_of_ble_eq_true rfl⟩ (fun r_3 u_3 H locs hq_3 hP hD hS => ?_)
  replace hq_3 : r_3 = if tKd t n pp = 1 ∧ isW t (tSt t n pp) (tNx t n pp) (wO 0) (wL 0) then 1 else 0 := hq_3
  have hP : va_P D vwCl [ob aD 2 [.ref aCU, .ref aMV, .int sp, .int bf, .int ln], ar cI aCU 4 fCU, ar cI aMV 4 fMV, ob aR 4 [.ref aTX, .int (nI n), .int (tKd t n pp), .int (nI (tSt t n pp)), .int (nI (tNx t n pp)), .int 0, .int fp], ar cI aTX 300 fTX] H := hP
  have hD : va_D A [ob aD 2 [.ref aCU, .ref aMV, .int sp, .int bf, .int ln], ar cI aCU 4 fCU, ar cI aMV 4 fMV, ob aR 4 [.ref aTX, .int (nI n), .int (tKd t n pp), .int (nI (tSt t n pp)), .int (nI (tNx t n pp)), .int 0, .int fp], ar cI aTX 300 fTX] := hD
  refine lv_if_eq (tgt := 17) hx hb dX4_readLine_6 (by decide) (fun c_6 => ?_) (fun c_6 => ?_)
  · skip
    refine lv_aload_n hx hb dX4_readLine_17 rfl (lv_at hl 0 rfl) ?_
    refine va_ldcS hx hb hown hE.2.1.2.1 dX4_readLine_18 ?_
    refine m_cViE (As := [.ref (ad 1)]) (rest := []) (wr := [ob aD 2 [.ref aCU, .ref aMV, .int sp, .int bf, .int ln], ar cI aCU 4 fCU, ar cI aMV 4 fMV]) ⟨hx, hb, hml, hown, hts⟩ (c_X4_isWord l D cI cZ ad adv aR aTX fTX t n pp 0 fp 1 (by first | assumption | omega) (by first | assumption | omega) (by first | assumption | omega) (by decide)) (cwV 1 hts gX4_readLine_X4_isWord rfl rfl rfl (by decide +kernel) ⟨Nat.le_of_ble_eq_true rfl, Nat.le_of_ble_eq_true rfl⟩) hN hK hP hD hS hA hE [3, 4] [0, 1, 2] rfl rfl (by decide) (by decide) (by decide) (va_recv hK hP (q0 := 3) (ci := 4) (q := (RX4, TX4, 7)) rfl rfl) rfl hl.1 rfl (Nat.le_of_ble_eq_true rfl) dX4_readLine_20 ⟨Nat.le_of_ble_eq_true rfl, Nat.le_of_ble_eq_true rfl⟩ (fun r_20 u_20 H locs hq_20 hP hD hS => ?_)
    replace hq_20 : r_20 = if tKd t n pp = 1 ∧ isW t (tSt t n pp) (tNx t n pp) (wO 1) (wL 1) then 1 else 0 := hq_20
    have hP : va_P D vwCl [ob aD 2 [.ref aCU, .ref aMV, .int sp, .int bf, .int ln], ar cI aCU 4 fCU, ar cI aMV 4 fMV, ob aR 4 [.ref aTX, .int (nI n), .int (tKd t n pp), .int (nI (tSt t n pp)), .int (nI (tNx t n pp)), .int 0, .int fp], ar cI aTX 300 fTX] H := hP
    have hD : va_D A [ob aD 2 [.ref aCU, .ref aMV, .int sp, .int bf, .int ln], ar cI aCU 4 fCU, ar cI aMV 4 fMV, ob aR 4 [.ref aTX, .int (nI n), .int (tKd t n pp), .int (nI (tSt t n pp)), .int (nI (tNx t n pp)), .int 0, .int fp], ar cI aTX 300 fTX] := hD
    refine lv_if_eq (tgt := 34) hx hb dX4_readLine_23 (by decide) (fun c_23 => ?_) (fun c_23 => ?_)
    · skip
      refine lv_aload_n hx hb dX4_readLine_34 rfl (lv_at hl 0 rfl) ?_
      refine va_ldcS hx hb hown hE.2.1.2.2.1 dX4_readLine_35 ?_
      refine m_cViE (As := [.ref (ad 2)]) (rest := []) (wr := [ob aD 2 [.ref aCU, .ref aMV, .int sp, .int bf, .int ln], ar cI aCU 4 fCU, ar cI aMV 4 fMV]) ⟨hx, hb, hml, hown, hts⟩ (c_X4_isWord l D cI cZ ad adv aR aTX fTX t n pp 0 fp 2 (by first | assumption | omega) (by first | assumption | omega) (by first | assumption | omega) (by decide)) (cwV 1 hts gX4_readLine_X4_isWord rfl rfl rfl (by decide +kernel) ⟨Nat.le_of_ble_eq_true rfl, Nat.le_of_ble_eq_true rfl⟩) hN hK hP hD hS hA hE [3, 4] [0, 1, 2] rfl rfl (by decide) (by decide) (by decide) (va_recv hK hP (q0 := 3) (ci := 4) (q := (RX4, TX4, 7)) rfl rfl) rfl hl.1 rfl (Nat.le_of_ble_eq_true rfl) dX4_readLine_37 ⟨Nat.le_of_ble_eq_true rfl, Nat.le_of_ble_eq_true rfl⟩ (fun r_37 u_37 H locs hq_37 hP hD hS => ?_)
      replace hq_37 : r_37 = if tKd t n pp = 1 ∧ isW t (tSt t n pp) (tNx t n pp) (wO 2) (wL 2) then 1 else 0 := hq_37
      have hP : va_P D vwCl [ob aD 2 [.ref aCU, .ref aMV, .int sp, .int bf, .int ln], ar cI aCU 4 fCU, ar cI aMV 4 fMV, ob aR 4 [.ref aTX, .int (nI n), .int (tKd t n pp), .int (nI (tSt t n pp)), .int (nI (tNx t n pp)), .int 0, .int fp], ar cI aTX 300 fTX] H := hP
      have hD : va_D A [ob aD 2 [.ref aCU, .ref aMV, .int sp, .int bf, .int ln], ar cI aCU 4 fCU, ar cI aMV 4 fMV, ob aR 4 [.ref aTX, .int (nI n), .int (tKd t n pp), .int (nI (tSt t n pp)), .int (nI (tNx t n pp)), .int 0, .int fp], ar cI aTX 300 fTX] := hD
      refine lv_if_eq (tgt := 51) hx hb dX4_readLine_40 (by decide) (fun c_40 => ?_) (fun c_40 => ?_)
      · skip
        refine lv_aload_n hx hb dX4_readLine_51 rfl (lv_at hl 0 rfl) ?_
        refine va_ldcS hx hb hown hE.2.1.2.2.2.1 dX4_readLine_52 ?_
        refine m_cViE (As := [.ref (ad 3)]) (rest := []) (wr := [ob aD 2 [.ref aCU, .ref aMV, .int sp, .int bf, .int ln], ar cI aCU 4 fCU, ar cI aMV 4 fMV]) ⟨hx, hb, hml, hown, hts⟩ (c_X4_isWord l D cI cZ ad adv aR aTX fTX t n pp 0 fp 3 (by first | assumption | omega) (by first | assumption | omega) (by first | assumption | omega) (by decide)) (cwV 1 hts gX4_readLine_X4_isWord rfl rfl rfl (by decide +kernel) ⟨Nat.le_of_ble_eq_true rfl, Nat.le_of_ble_eq_true rfl⟩) hN hK hP hD hS hA hE [3, 4] [0, 1, 2] rfl rfl (by decide) (by decide) (by decide) (va_recv hK hP (q0 := 3) (ci := 4) (q := (RX4, TX4, 7)) rfl rfl) rfl hl.1 rfl (Nat.le_of_ble_eq_true rfl) dX4_readLine_54 ⟨Nat.le_of_ble_eq_true rfl, Nat.le_of_ble_eq_true rfl⟩ (fun r_54 u_54 H locs hq_54 hP hD hS => ?_)
        replace hq_54 : r_54 = if tKd t n pp = 1 ∧ isW t (tSt t n pp) (tNx t n pp) (wO 3) (wL 3) then 1 else 0 := hq_54
        have hP : va_P D vwCl [ob aD 2 [.ref aCU, .ref aMV, .int sp, .int bf, .int ln], ar cI aCU 4 fCU, ar cI aMV 4 fMV, ob aR 4 [.ref aTX, .int (nI n), .int (tKd t n pp), .int (nI (tSt t n pp)), .int (nI (tNx t n pp)), .int 0, .int fp], ar cI aTX 300 fTX] H := hP
        have hD : va_D A [ob aD 2 [.ref aCU, .ref aMV, .int sp, .int bf, .int ln], ar cI aCU 4 fCU, ar cI aMV 4 fMV, ob aR 4 [.ref aTX, .int (nI n), .int (tKd t n pp), .int (nI (tSt t n pp)), .int (nI (tNx t n pp)), .int 0, .int fp], ar cI aTX 300 fTX] := hD
        refine lv_if_eq (tgt := 68) hx hb dX4_readLine_57 (by decide) (fun c_57 => ?_) (fun c_57 => ?_)
        · skip
          refine lv_aload_n hx hb dX4_readLine_68 rfl (lv_at hl 0 rfl) ?_
          refine lv_iconst (v := 1) hx hb dX4_readLine_69 (by decide) ?_
          refine m_cVv (As := [.int 1]) (rest := []) (wr := [ob aD 2 [.ref aCU, .ref aMV, .int sp, .int bf, .int ln], ar cI aCU 4 fCU, ar cI aMV 4 fMV, ar cI aTX 300 fTX]) ⟨hx, hb, hml, hown, hts⟩ (c_X4_blame l D cI cZ aR aTX n (tKd t n pp) (nI (tSt t n pp)) (nI (tNx t n pp)) 0 fp 1 ) (cwV 1 hts gX4_readLine_X4_blame rfl rfl rfl (by decide +kernel) ⟨Nat.le_of_ble_eq_true rfl, Nat.le_of_ble_eq_true rfl⟩) hN hK hP hD hS hA [3] [0, 1, 2, 4] rfl rfl (by decide) (by decide) (by decide) 0 (ci := 4) rfl rfl rfl rfl hl.1 rfl (Nat.le_of_ble_eq_true rfl) dX4_readLine_70 ⟨Nat.le_of_ble_eq_true rfl, Nat.le_of_ble_eq_true rfl⟩ (fun u_70 H locs hq_70 hP hD hS => ?_)
          obtain ⟨f2_70, p2_70⟩ := u_70
          replace hq_70 : (f2_70, p2_70) = blF (0, fp) 1 (nI (tSt t n pp)) := hq_70
          have hP : va_P D vwCl [ob aD 2 [.ref aCU, .ref aMV, .int sp, .int bf, .int ln], ar cI aCU 4 fCU, ar cI aMV 4 fMV, ar cI aTX 300 fTX, ob aR 4 [.ref aTX, .int (nI n), .int (tKd t n pp), .int (nI (tSt t n pp)), .int (nI (tNx t n pp)), .int f2_70, .int p2_70]] H := hP
          have hD : va_D A [ob aD 2 [.ref aCU, .ref aMV, .int sp, .int bf, .int ln], ar cI aCU 4 fCU, ar cI aMV 4 fMV, ar cI aTX 300 fTX, ob aR 4 [.ref aTX, .int (nI n), .int (tKd t n pp), .int (nI (tSt t n pp)), .int (nI (tNx t n pp)), .int f2_70, .int p2_70]] := hD
          refine lv_aload_n hx hb dX4_readLine_73 rfl (lv_at hl 0 rfl) ?_
          refine m_cVv (As := []) (rest := []) (wr := [ob aD 2 [.ref aCU, .ref aMV, .int sp, .int bf, .int ln], ar cI aCU 4 fCU, ar cI aMV 4 fMV]) ⟨hx, hb, hml, hown, hts⟩ (c_X4_readSemicolon l D cI cZ aR aTX fTX t n pp f2_70 p2_70 (by first | assumption | omega) (hp) (by first | assumption | omega)) (cwV 0 hts gX4_readLine_X4_readSemicolon rfl rfl rfl (by decide +kernel) ⟨Nat.le_of_ble_eq_true rfl, Nat.le_of_ble_eq_true rfl⟩) hN hK hP hD hS hA [4, 3] [0, 1, 2] rfl rfl (by decide) (by decide) (by decide) 0 (ci := 4) rfl rfl rfl rfl hl.1 rfl (Nat.le_of_ble_eq_true rfl) dX4_readLine_74 ⟨Nat.le_of_ble_eq_true rfl, Nat.le_of_ble_eq_true rfl⟩ (fun u_74 H locs hq_74 hP hD hS => ?_)
          obtain ⟨f2_74, p2_74⟩ := u_74
          replace hq_74 : (f2_74, p2_74) = seB t n pp (f2_70, p2_70) := hq_74
          have hP : va_P D vwCl [ob aD 2 [.ref aCU, .ref aMV, .int sp, .int bf, .int ln], ar cI aCU 4 fCU, ar cI aMV 4 fMV, ob aR 4 [.ref aTX, .int (nI n), .int (tKd t n (tNx t n pp)), .int (nI (tSt t n (tNx t n pp))), .int (nI (tNx t n (tNx t n pp))), .int f2_74, .int p2_74], ar cI aTX 300 fTX] H := hP
          have hD : va_D A [ob aD 2 [.ref aCU, .ref aMV, .int sp, .int bf, .int ln], ar cI aCU 4 fCU, ar cI aMV 4 fMV, ob aR 4 [.ref aTX, .int (nI n), .int (tKd t n (tNx t n pp)), .int (nI (tSt t n (tNx t n pp))), .int (nI (tNx t n (tNx t n pp))), .int f2_74, .int p2_74], ar cI aTX 300 fTX] := hD
          refine lv_aload_n hx hb dX4_readLine_77 rfl (lv_at hl 1 rfl) ?_
          refine lv_dup hx hb dX4_readLine_78 rfl ?_
          refine va_getN (D := D) (ci := 2) (v := .int ln) (C := RX2) (T := TX2) (N := 5) hx hb hts inX2 hown hK hP 0 rfl rfl 4 (by decide) fl89 (fun _ h9 => h9) rfl dX4_readLine_79 ?_
          refine lv_iconst (v := 1) hx hb dX4_readLine_82 (by decide) ?_
          refine lv_iadd hx hb dX4_readLine_83 ?_
          refine va_putN (D := D) (ci := 2) (v := .int (ln + 1)) (ty := .int) (C := RX2) (T := TX2) (N := 5) hx hb hts inX2 tyX2 tyX2_ok nmX2 hown hK hP hD hS 0 rfl rfl 4 (by decide) fl89 (fun _ h9 => h9) rfl (by decide +kernel) (rfl) (rfl) (Nat.le_of_ble_eq_true rfl) dX4_readLine_84 (fun H locs hP hD hS => ?_)
          have hP : va_P D vwCl [ob aD 2 [.ref aCU, .ref aMV, .int sp, .int bf, .int (ln + 1)], ar cI aCU 4 fCU, ar cI aMV 4 fMV, ob aR 4 [.ref aTX, .int (nI n), .int (tKd t n (tNx t n pp)), .int (nI (tSt t n (tNx t n pp))), .int (nI (tNx t n (tNx t n pp))), .int f2_74, .int p2_74], ar cI aTX 300 fTX] H := hP
          have hD : va_D A [ob aD 2 [.ref aCU, .ref aMV, .int sp, .int bf, .int (ln + 1)], ar cI aCU 4 fCU, ar cI aMV 4 fMV, ob aR 4 [.ref aTX, .int (nI n), .int (tKd t n (tNx t n pp)), .int (nI (tSt t n (tNx t n pp))), .int (nI (tNx t n (tNx t n pp))), .int f2_74, .int p2_74], ar cI aTX 300 fTX] := hD
          exact ret ((tNx t n pp), f2_74, p2_74, sp, bf, fCU, fMV) _ _ _ _ dX4_readLine_87 (⟨tNx_le (t := t) (hp), cls_b1 (wN_no (fun i hi => by match i, hi with | 0, _ => exact isw_no hq_3 c_6 | 1, _ => exact isw_no hq_20 c_23 | 2, _ => exact isw_no hq_37 c_40 | 3, _ => exact isw_no hq_54 c_57 | (i + 4), hi => exact absurd hi (by omega))) (hq_74.trans (by rw [hq_70]))⟩) (hP.sub [3, 4, 0, 1, 2] rfl) (hD.sub [3, 4, 0, 1, 2] (by decide) rfl) hS
        · skip
          refine lv_aload_n hx hb dX4_readLine_60 rfl (lv_at hl 0 rfl) ?_
          refine lv_aload_n hx hb dX4_readLine_61 rfl (lv_at hl 1 rfl) ?_
          refine m_cVv (As := [.ref aD]) (rest := []) (wr := [ar cI aCU 4 fCU, ar cI aMV 4 fMV]) ⟨hx, hb, hml, hown, hts⟩ (c_X4_readBefore l D cI cZ aR aTX aD aCU aMV fTX t n pp sp bf ln 0 fp (by first | assumption | omega) (by first | assumption | omega) (by first | assumption | omega)) (cwV 1 hts gX4_readLine_X4_readBefore rfl rfl rfl (by decide +kernel) ⟨Nat.le_of_ble_eq_true rfl, Nat.le_of_ble_eq_true rfl⟩) hN hK hP hD hS hA [3, 4, 0] [1, 2] rfl rfl (by decide) (by decide) (by decide) 0 (ci := 4) rfl rfl rfl rfl hl.1 rfl (Nat.le_of_ble_eq_true rfl) dX4_readLine_62 ⟨Nat.le_of_ble_eq_true rfl, Nat.le_of_ble_eq_true rfl⟩ (fun u_62 H locs hq_62 hP hD hS => ?_)
          obtain ⟨f2_62, p2_62, x2_62⟩ := u_62
          replace hq_62 : (f2_62, p2_62) = nuB t n (tNx t n pp) 999 (if bf = -1 then (0, fp) else blF (0, fp) 3 (nI (tSt t n pp))) ∧ x2_62 = nI (nuV t n (tNx t n pp) 999) := hq_62
          have hP : va_P D vwCl [ar cI aCU 4 fCU, ar cI aMV 4 fMV, ob aR 4 [.ref aTX, .int (nI n), .int (tKd t n (tNx t n (tNx t n pp))), .int (nI (tSt t n (tNx t n (tNx t n pp)))), .int (nI (tNx t n (tNx t n (tNx t n pp)))), .int f2_62, .int p2_62], ar cI aTX 300 fTX, ob aD 2 [.ref aCU, .ref aMV, .int sp, .int x2_62, .int ln]] H := hP
          have hD : va_D A [ar cI aCU 4 fCU, ar cI aMV 4 fMV, ob aR 4 [.ref aTX, .int (nI n), .int (tKd t n (tNx t n (tNx t n pp))), .int (nI (tSt t n (tNx t n (tNx t n pp)))), .int (nI (tNx t n (tNx t n (tNx t n pp)))), .int f2_62, .int p2_62], ar cI aTX 300 fTX, ob aD 2 [.ref aCU, .ref aMV, .int sp, .int x2_62, .int ln]] := hD
          refine lv_goto (tgt := 73) hx hb dX4_readLine_65 (by decide) ?_
          refine lv_aload_n hx hb dX4_readLine_73 rfl (lv_at hl 0 rfl) ?_
          refine m_cVv (As := []) (rest := []) (wr := [ar cI aCU 4 fCU, ar cI aMV 4 fMV, ob aD 2 [.ref aCU, .ref aMV, .int sp, .int x2_62, .int ln]]) ⟨hx, hb, hml, hown, hts⟩ (c_X4_readSemicolon l D cI cZ aR aTX fTX t n (tNx t n (tNx t n pp)) f2_62 p2_62 (by first | assumption | omega) (tNx_le (t := t) (tNx_le (t := t) (hp))) (by first | assumption | omega)) (cwV 0 hts gX4_readLine_X4_readSemicolon rfl rfl rfl (by decide +kernel) ⟨Nat.le_of_ble_eq_true rfl, Nat.le_of_ble_eq_true rfl⟩) hN hK hP hD hS hA [2, 3] [0, 1, 4] rfl rfl (by decide) (by decide) (by decide) 0 (ci := 4) rfl rfl rfl rfl hl.1 rfl (Nat.le_of_ble_eq_true rfl) dX4_readLine_74 ⟨Nat.le_of_ble_eq_true rfl, Nat.le_of_ble_eq_true rfl⟩ (fun u_74 H locs hq_74 hP hD hS => ?_)
          obtain ⟨f2_74, p2_74⟩ := u_74
          replace hq_74 : (f2_74, p2_74) = seB t n (tNx t n (tNx t n pp)) (f2_62, p2_62) := hq_74
          have hP : va_P D vwCl [ar cI aCU 4 fCU, ar cI aMV 4 fMV, ob aD 2 [.ref aCU, .ref aMV, .int sp, .int x2_62, .int ln], ob aR 4 [.ref aTX, .int (nI n), .int (tKd t n (tNx t n (tNx t n (tNx t n pp)))), .int (nI (tSt t n (tNx t n (tNx t n (tNx t n pp))))), .int (nI (tNx t n (tNx t n (tNx t n (tNx t n pp))))), .int f2_74, .int p2_74], ar cI aTX 300 fTX] H := hP
          have hD : va_D A [ar cI aCU 4 fCU, ar cI aMV 4 fMV, ob aD 2 [.ref aCU, .ref aMV, .int sp, .int x2_62, .int ln], ob aR 4 [.ref aTX, .int (nI n), .int (tKd t n (tNx t n (tNx t n (tNx t n pp)))), .int (nI (tSt t n (tNx t n (tNx t n (tNx t n pp))))), .int (nI (tNx t n (tNx t n (tNx t n (tNx t n pp))))), .int f2_74, .int p2_74], ar cI aTX 300 fTX] := hD
          refine lv_aload_n hx hb dX4_readLine_77 rfl (lv_at hl 1 rfl) ?_
          refine lv_dup hx hb dX4_readLine_78 rfl ?_
          refine va_getN (D := D) (ci := 2) (v := .int ln) (C := RX2) (T := TX2) (N := 5) hx hb hts inX2 hown hK hP 2 rfl rfl 4 (by decide) fl89 (fun _ h9 => h9) rfl dX4_readLine_79 ?_
          refine lv_iconst (v := 1) hx hb dX4_readLine_82 (by decide) ?_
          refine lv_iadd hx hb dX4_readLine_83 ?_
          refine va_putN (D := D) (ci := 2) (v := .int (ln + 1)) (ty := .int) (C := RX2) (T := TX2) (N := 5) hx hb hts inX2 tyX2 tyX2_ok nmX2 hown hK hP hD hS 2 rfl rfl 4 (by decide) fl89 (fun _ h9 => h9) rfl (by decide +kernel) (rfl) (rfl) (Nat.le_of_ble_eq_true rfl) dX4_readLine_84 (fun H locs hP hD hS => ?_)
          have hP : va_P D vwCl [ar cI aCU 4 fCU, ar cI aMV 4 fMV, ob aD 2 [.ref aCU, .ref aMV, .int sp, .int x2_62, .int (ln + 1)], ob aR 4 [.ref aTX, .int (nI n), .int (tKd t n (tNx t n (tNx t n (tNx t n pp)))), .int (nI (tSt t n (tNx t n (tNx t n (tNx t n pp))))), .int (nI (tNx t n (tNx t n (tNx t n (tNx t n pp))))), .int f2_74, .int p2_74], ar cI aTX 300 fTX] H := hP
          have hD : va_D A [ar cI aCU 4 fCU, ar cI aMV 4 fMV, ob aD 2 [.ref aCU, .ref aMV, .int sp, .int x2_62, .int (ln + 1)], ob aR 4 [.ref aTX, .int (nI n), .int (tKd t n (tNx t n (tNx t n (tNx t n pp)))), .int (nI (tSt t n (tNx t n (tNx t n (tNx t n pp))))), .int (nI (tNx t n (tNx t n (tNx t n (tNx t n pp))))), .int f2_74, .int p2_74], ar cI aTX 300 fTX] := hD
          have hY := isw_yes hq_54 c_57
          have hWN : wN t n pp = 3 := wN_at (by decide) (fun i hi => by match i, hi with | 0, _ => exact isw_no hq_3 c_6 | 1, _ => exact isw_no hq_20 c_23 | 2, _ => exact isw_no hq_37 c_40 | (i + 3), hi => exact absurd hi (by omega)) hY
          have hY4 : tKd t n pp = 1 ∧ ¬ wN t n pp = 4 := ⟨hY.1, by rw [hWN]; decide⟩
          exact ret ((tNx t n (tNx t n (tNx t n pp))), f2_74, p2_74, sp, x2_62, fCU, fMV) _ _ _ _ dX4_readLine_87 (⟨tNx_le (t := t) (tNx_le (t := t) (tNx_le (t := t) (hp))), cls_sp (v := bf) hY4 hWN (by decide) rfl (hq_74.trans (by rw [hq_62.1])) (by rw [hq_62.2]; exact ruC_bf) rfl⟩) (hP.sub [3, 4, 2, 0, 1] rfl) (hD.sub [3, 4, 2, 0, 1] (by decide) rfl) hS
      · skip
        refine lv_aload_n hx hb dX4_readLine_43 rfl (lv_at hl 0 rfl) ?_
        refine lv_aload_n hx hb dX4_readLine_44 rfl (lv_at hl 1 rfl) ?_
        refine m_cVv (As := [.ref aD]) (rest := []) (wr := [ar cI aCU 4 fCU, ar cI aMV 4 fMV]) ⟨hx, hb, hml, hown, hts⟩ (c_X4_readSpare l D cI cZ aR aTX aD aCU aMV fTX t n pp sp bf ln 0 fp (by first | assumption | omega) (by first | assumption | omega) (by first | assumption | omega)) (cwV 1 hts gX4_readLine_X4_readSpare rfl rfl rfl (by decide +kernel) ⟨Nat.le_of_ble_eq_true rfl, Nat.le_of_ble_eq_true rfl⟩) hN hK hP hD hS hA [3, 4, 0] [1, 2] rfl rfl (by decide) (by decide) (by decide) 0 (ci := 4) rfl rfl rfl rfl hl.1 rfl (Nat.le_of_ble_eq_true rfl) dX4_readLine_45 ⟨Nat.le_of_ble_eq_true rfl, Nat.le_of_ble_eq_true rfl⟩ (fun u_45 H locs hq_45 hP hD hS => ?_)
        obtain ⟨f2_45, p2_45, x2_45⟩ := u_45
        replace hq_45 : (f2_45, p2_45) = nuB t n (tNx t n pp) 999 (if sp = -1 then (0, fp) else blF (0, fp) 3 (nI (tSt t n pp))) ∧ x2_45 = nI (nuV t n (tNx t n pp) 999) := hq_45
        have hP : va_P D vwCl [ar cI aCU 4 fCU, ar cI aMV 4 fMV, ob aR 4 [.ref aTX, .int (nI n), .int (tKd t n (tNx t n (tNx t n pp))), .int (nI (tSt t n (tNx t n (tNx t n pp)))), .int (nI (tNx t n (tNx t n (tNx t n pp)))), .int f2_45, .int p2_45], ar cI aTX 300 fTX, ob aD 2 [.ref aCU, .ref aMV, .int x2_45, .int bf, .int ln]] H := hP
        have hD : va_D A [ar cI aCU 4 fCU, ar cI aMV 4 fMV, ob aR 4 [.ref aTX, .int (nI n), .int (tKd t n (tNx t n (tNx t n pp))), .int (nI (tSt t n (tNx t n (tNx t n pp)))), .int (nI (tNx t n (tNx t n (tNx t n pp)))), .int f2_45, .int p2_45], ar cI aTX 300 fTX, ob aD 2 [.ref aCU, .ref aMV, .int x2_45, .int bf, .int ln]] := hD
        refine lv_goto (tgt := 73) hx hb dX4_readLine_48 (by decide) ?_
        refine lv_aload_n hx hb dX4_readLine_73 rfl (lv_at hl 0 rfl) ?_
        refine m_cVv (As := []) (rest := []) (wr := [ar cI aCU 4 fCU, ar cI aMV 4 fMV, ob aD 2 [.ref aCU, .ref aMV, .int x2_45, .int bf, .int ln]]) ⟨hx, hb, hml, hown, hts⟩ (c_X4_readSemicolon l D cI cZ aR aTX fTX t n (tNx t n (tNx t n pp)) f2_45 p2_45 (by first | assumption | omega) (tNx_le (t := t) (tNx_le (t := t) (hp))) (by first | assumption | omega)) (cwV 0 hts gX4_readLine_X4_readSemicolon rfl rfl rfl (by decide +kernel) ⟨Nat.le_of_ble_eq_true rfl, Nat.le_of_ble_eq_true rfl⟩) hN hK hP hD hS hA [2, 3] [0, 1, 4] rfl rfl (by decide) (by decide) (by decide) 0 (ci := 4) rfl rfl rfl rfl hl.1 rfl (Nat.le_of_ble_eq_true rfl) dX4_readLine_74 ⟨Nat.le_of_ble_eq_true rfl, Nat.le_of_ble_eq_true rfl⟩ (fun u_74 H locs hq_74 hP hD hS => ?_)
        obtain ⟨f2_74, p2_74⟩ := u_74
        replace hq_74 : (f2_74, p2_74) = seB t n (tNx t n (tNx t n pp)) (f2_45, p2_45) := hq_74
        have hP : va_P D vwCl [ar cI aCU 4 fCU, ar cI aMV 4 fMV, ob aD 2 [.ref aCU, .ref aMV, .int x2_45, .int bf, .int ln], ob aR 4 [.ref aTX, .int (nI n), .int (tKd t n (tNx t n (tNx t n (tNx t n pp)))), .int (nI (tSt t n (tNx t n (tNx t n (tNx t n pp))))), .int (nI (tNx t n (tNx t n (tNx t n (tNx t n pp))))), .int f2_74, .int p2_74], ar cI aTX 300 fTX] H := hP
        have hD : va_D A [ar cI aCU 4 fCU, ar cI aMV 4 fMV, ob aD 2 [.ref aCU, .ref aMV, .int x2_45, .int bf, .int ln], ob aR 4 [.ref aTX, .int (nI n), .int (tKd t n (tNx t n (tNx t n (tNx t n pp)))), .int (nI (tSt t n (tNx t n (tNx t n (tNx t n pp))))), .int (nI (tNx t n (tNx t n (tNx t n (tNx t n pp))))), .int f2_74, .int p2_74], ar cI aTX 300 fTX] := hD
        refine lv_aload_n hx hb dX4_readLine_77 rfl (lv_at hl 1 rfl) ?_
        refine lv_dup hx hb dX4_readLine_78 rfl ?_
        refine va_getN (D := D) (ci := 2) (v := .int ln) (C := RX2) (T := TX2) (N := 5) hx hb hts inX2 hown hK hP 2 rfl rfl 4 (by decide) fl89 (fun _ h9 => h9) rfl dX4_readLine_79 ?_
        refine lv_iconst (v := 1) hx hb dX4_readLine_82 (by decide) ?_
        refine lv_iadd hx hb dX4_readLine_83 ?_
        refine va_putN (D := D) (ci := 2) (v := .int (ln + 1)) (ty := .int) (C := RX2) (T := TX2) (N := 5) hx hb hts inX2 tyX2 tyX2_ok nmX2 hown hK hP hD hS 2 rfl rfl 4 (by decide) fl89 (fun _ h9 => h9) rfl (by decide +kernel) (rfl) (rfl) (Nat.le_of_ble_eq_true rfl) dX4_readLine_84 (fun H locs hP hD hS => ?_)
        have hP : va_P D vwCl [ar cI aCU 4 fCU, ar cI aMV 4 fMV, ob aD 2 [.ref aCU, .ref aMV, .int x2_45, .int bf, .int (ln + 1)], ob aR 4 [.ref aTX, .int (nI n), .int (tKd t n (tNx t n (tNx t n (tNx t n pp)))), .int (nI (tSt t n (tNx t n (tNx t n (tNx t n pp))))), .int (nI (tNx t n (tNx t n (tNx t n (tNx t n pp))))), .int f2_74, .int p2_74], ar cI aTX 300 fTX] H := hP
        have hD : va_D A [ar cI aCU 4 fCU, ar cI aMV 4 fMV, ob aD 2 [.ref aCU, .ref aMV, .int x2_45, .int bf, .int (ln + 1)], ob aR 4 [.ref aTX, .int (nI n), .int (tKd t n (tNx t n (tNx t n (tNx t n pp)))), .int (nI (tSt t n (tNx t n (tNx t n (tNx t n pp))))), .int (nI (tNx t n (tNx t n (tNx t n (tNx t n pp))))), .int f2_74, .int p2_74], ar cI aTX 300 fTX] := hD
        have hY := isw_yes hq_37 c_40
        have hWN : wN t n pp = 2 := wN_at (by decide) (fun i hi => by match i, hi with | 0, _ => exact isw_no hq_3 c_6 | 1, _ => exact isw_no hq_20 c_23 | (i + 2), hi => exact absurd hi (by omega)) hY
        have hY4 : tKd t n pp = 1 ∧ ¬ wN t n pp = 4 := ⟨hY.1, by rw [hWN]; decide⟩
        exact ret ((tNx t n (tNx t n (tNx t n pp))), f2_74, p2_74, x2_45, bf, fCU, fMV) _ _ _ _ dX4_readLine_87 (⟨tNx_le (t := t) (tNx_le (t := t) (tNx_le (t := t) (hp))), cls_sp (v := sp) hY4 hWN (by decide) rfl (hq_74.trans (by rw [hq_45.1])) (by rw [hq_45.2]; exact ruC_sp) rfl⟩) (hP.sub [3, 4, 2, 0, 1] rfl) (hD.sub [3, 4, 2, 0, 1] (by decide) rfl) hS
    · skip
      refine lv_aload_n hx hb dX4_readLine_26 rfl (lv_at hl 0 rfl) ?_
      refine lv_aload_n hx hb dX4_readLine_27 rfl (lv_at hl 1 rfl) ?_
      refine m_cVv (As := [.ref aD]) (rest := []) (wr := [ar cI aCU 4 fCU]) ⟨hx, hb, hml, hown, hts⟩ (c_X4_readMove l D cI cZ aR aTX aD aCU aMV fTX t n pp fMV sp bf ln 0 fp (by first | assumption | omega) (by first | assumption | omega) (by first | assumption | omega)) (cwV 1 hts gX4_readLine_X4_readMove rfl rfl rfl (by decide +kernel) ⟨Nat.le_of_ble_eq_true rfl, Nat.le_of_ble_eq_true rfl⟩) hN hK hP hD hS hA [3, 4, 0, 2] [1] rfl rfl (by decide) (by decide) (by decide) 0 (ci := 4) rfl rfl rfl rfl hl.1 rfl (Nat.le_of_ble_eq_true rfl) dX4_readLine_28 ⟨Nat.le_of_ble_eq_true rfl, Nat.le_of_ble_eq_true rfl⟩ (fun u_28 H locs hq_28 hP hD hS => ?_)
      obtain ⟨f2_28, p2_28, g_28⟩ := u_28
      replace hq_28 : (f2_28, p2_28) = nuB t n (tNx t n (tNx t n pp)) 3 (nuB t n (tNx t n pp) 3 (rkB t n (tNx t n pp) fMV (0, fp))) ∧ g_28 = upd fMV (nuV t n (tNx t n pp) 3) (nI (nuV t n (tNx t n (tNx t n pp)) 3)) := hq_28
      have hP : va_P D vwCl [ar cI aCU 4 fCU, ob aR 4 [.ref aTX, .int (nI n), .int (tKd t n (tNx t n (tNx t n (tNx t n pp)))), .int (nI (tSt t n (tNx t n (tNx t n (tNx t n pp))))), .int (nI (tNx t n (tNx t n (tNx t n (tNx t n pp))))), .int f2_28, .int p2_28], ar cI aTX 300 fTX, ob aD 2 [.ref aCU, .ref aMV, .int sp, .int bf, .int ln], ar cI aMV 4 g_28] H := hP
      have hD : va_D A [ar cI aCU 4 fCU, ob aR 4 [.ref aTX, .int (nI n), .int (tKd t n (tNx t n (tNx t n (tNx t n pp)))), .int (nI (tSt t n (tNx t n (tNx t n (tNx t n pp))))), .int (nI (tNx t n (tNx t n (tNx t n (tNx t n pp))))), .int f2_28, .int p2_28], ar cI aTX 300 fTX, ob aD 2 [.ref aCU, .ref aMV, .int sp, .int bf, .int ln], ar cI aMV 4 g_28] := hD
      refine lv_goto (tgt := 73) hx hb dX4_readLine_31 (by decide) ?_
      refine lv_aload_n hx hb dX4_readLine_73 rfl (lv_at hl 0 rfl) ?_
      refine m_cVv (As := []) (rest := []) (wr := [ar cI aCU 4 fCU, ob aD 2 [.ref aCU, .ref aMV, .int sp, .int bf, .int ln], ar cI aMV 4 g_28]) ⟨hx, hb, hml, hown, hts⟩ (c_X4_readSemicolon l D cI cZ aR aTX fTX t n (tNx t n (tNx t n (tNx t n pp))) f2_28 p2_28 (by first | assumption | omega) (tNx_le (t := t) (tNx_le (t := t) (tNx_le (t := t) (hp)))) (by first | assumption | omega)) (cwV 0 hts gX4_readLine_X4_readSemicolon rfl rfl rfl (by decide +kernel) ⟨Nat.le_of_ble_eq_true rfl, Nat.le_of_ble_eq_true rfl⟩) hN hK hP hD hS hA [1, 2] [0, 3, 4] rfl rfl (by decide) (by decide) (by decide) 0 (ci := 4) rfl rfl rfl rfl hl.1 rfl (Nat.le_of_ble_eq_true rfl) dX4_readLine_74 ⟨Nat.le_of_ble_eq_true rfl, Nat.le_of_ble_eq_true rfl⟩ (fun u_74 H locs hq_74 hP hD hS => ?_)
      obtain ⟨f2_74, p2_74⟩ := u_74
      replace hq_74 : (f2_74, p2_74) = seB t n (tNx t n (tNx t n (tNx t n pp))) (f2_28, p2_28) := hq_74
      have hP : va_P D vwCl [ar cI aCU 4 fCU, ob aD 2 [.ref aCU, .ref aMV, .int sp, .int bf, .int ln], ar cI aMV 4 g_28, ob aR 4 [.ref aTX, .int (nI n), .int (tKd t n (tNx t n (tNx t n (tNx t n (tNx t n pp))))), .int (nI (tSt t n (tNx t n (tNx t n (tNx t n (tNx t n pp)))))), .int (nI (tNx t n (tNx t n (tNx t n (tNx t n (tNx t n pp)))))), .int f2_74, .int p2_74], ar cI aTX 300 fTX] H := hP
      have hD : va_D A [ar cI aCU 4 fCU, ob aD 2 [.ref aCU, .ref aMV, .int sp, .int bf, .int ln], ar cI aMV 4 g_28, ob aR 4 [.ref aTX, .int (nI n), .int (tKd t n (tNx t n (tNx t n (tNx t n (tNx t n pp))))), .int (nI (tSt t n (tNx t n (tNx t n (tNx t n (tNx t n pp)))))), .int (nI (tNx t n (tNx t n (tNx t n (tNx t n (tNx t n pp)))))), .int f2_74, .int p2_74], ar cI aTX 300 fTX] := hD
      refine lv_aload_n hx hb dX4_readLine_77 rfl (lv_at hl 1 rfl) ?_
      refine lv_dup hx hb dX4_readLine_78 rfl ?_
      refine va_getN (D := D) (ci := 2) (v := .int ln) (C := RX2) (T := TX2) (N := 5) hx hb hts inX2 hown hK hP 1 rfl rfl 4 (by decide) fl89 (fun _ h9 => h9) rfl dX4_readLine_79 ?_
      refine lv_iconst (v := 1) hx hb dX4_readLine_82 (by decide) ?_
      refine lv_iadd hx hb dX4_readLine_83 ?_
      refine va_putN (D := D) (ci := 2) (v := .int (ln + 1)) (ty := .int) (C := RX2) (T := TX2) (N := 5) hx hb hts inX2 tyX2 tyX2_ok nmX2 hown hK hP hD hS 1 rfl rfl 4 (by decide) fl89 (fun _ h9 => h9) rfl (by decide +kernel) (rfl) (rfl) (Nat.le_of_ble_eq_true rfl) dX4_readLine_84 (fun H locs hP hD hS => ?_)
      have hP : va_P D vwCl [ar cI aCU 4 fCU, ob aD 2 [.ref aCU, .ref aMV, .int sp, .int bf, .int (ln + 1)], ar cI aMV 4 g_28, ob aR 4 [.ref aTX, .int (nI n), .int (tKd t n (tNx t n (tNx t n (tNx t n (tNx t n pp))))), .int (nI (tSt t n (tNx t n (tNx t n (tNx t n (tNx t n pp)))))), .int (nI (tNx t n (tNx t n (tNx t n (tNx t n (tNx t n pp)))))), .int f2_74, .int p2_74], ar cI aTX 300 fTX] H := hP
      have hD : va_D A [ar cI aCU 4 fCU, ob aD 2 [.ref aCU, .ref aMV, .int sp, .int bf, .int (ln + 1)], ar cI aMV 4 g_28, ob aR 4 [.ref aTX, .int (nI n), .int (tKd t n (tNx t n (tNx t n (tNx t n (tNx t n pp))))), .int (nI (tSt t n (tNx t n (tNx t n (tNx t n (tNx t n pp)))))), .int (nI (tNx t n (tNx t n (tNx t n (tNx t n (tNx t n pp)))))), .int f2_74, .int p2_74], ar cI aTX 300 fTX] := hD
      have hY := isw_yes hq_20 c_23
      have hWN : wN t n pp = 1 := wN_at (by decide) (fun i hi => by match i, hi with | 0, _ => exact isw_no hq_3 c_6 | (i + 1), hi => exact absurd hi (by omega)) hY
      have hY4 : tKd t n pp = 1 ∧ ¬ wN t n pp = 4 := ⟨hY.1, by rw [hWN]; decide⟩
      exact ret ((tNx t n (tNx t n (tNx t n (tNx t n pp)))), f2_74, p2_74, sp, bf, fCU, g_28) _ _ _ _ dX4_readLine_87 (⟨tNx_le (t := t) (tNx_le (t := t) (tNx_le (t := t) (tNx_le (t := t) (hp)))), cls_cut (told := fMV) (mx := 3) hY4 hWN (by decide) rfl (fun a ha => (ruC_m ha).symm) (hq_74.trans (by rw [hq_28.1])) (by show ruC fCU g_28 sp bf = _; rw [hq_28.2, ruC_mv (Nat.lt_of_le_of_lt nuV_le (by decide)), Nat.mul_one]) rfl⟩) (hP.sub [3, 4, 1, 0, 2] rfl) (hD.sub [3, 4, 1, 0, 2] (by decide) rfl) hS
  · skip
    refine lv_aload_n hx hb dX4_readLine_9 rfl (lv_at hl 0 rfl) ?_
    refine lv_aload_n hx hb dX4_readLine_10 rfl (lv_at hl 1 rfl) ?_
    refine m_cVv (As := [.ref aD]) (rest := []) (wr := [ar cI aMV 4 fMV]) ⟨hx, hb, hml, hown, hts⟩ (c_X4_readCut l D cI cZ aR aTX aD aCU aMV fTX t n pp fCU sp bf ln 0 fp (by first | assumption | omega) (by first | assumption | omega) (by first | assumption | omega)) (cwV 1 hts gX4_readLine_X4_readCut rfl rfl rfl (by decide +kernel) ⟨Nat.le_of_ble_eq_true rfl, Nat.le_of_ble_eq_true rfl⟩) hN hK hP hD hS hA [3, 4, 0, 1] [2] rfl rfl (by decide) (by decide) (by decide) 0 (ci := 4) rfl rfl rfl rfl hl.1 rfl (Nat.le_of_ble_eq_true rfl) dX4_readLine_11 ⟨Nat.le_of_ble_eq_true rfl, Nat.le_of_ble_eq_true rfl⟩ (fun u_11 H locs hq_11 hP hD hS => ?_)
    obtain ⟨f2_11, p2_11, g_11⟩ := u_11
    replace hq_11 : (f2_11, p2_11) = nuB t n (tNx t n (tNx t n pp)) 100 (nuB t n (tNx t n pp) 3 (rkB t n (tNx t n pp) fCU (0, fp))) ∧ g_11 = upd fCU (nuV t n (tNx t n pp) 3) (nI (nuV t n (tNx t n (tNx t n pp)) 100)) := hq_11
    have hP : va_P D vwCl [ar cI aMV 4 fMV, ob aR 4 [.ref aTX, .int (nI n), .int (tKd t n (tNx t n (tNx t n (tNx t n pp)))), .int (nI (tSt t n (tNx t n (tNx t n (tNx t n pp))))), .int (nI (tNx t n (tNx t n (tNx t n (tNx t n pp))))), .int f2_11, .int p2_11], ar cI aTX 300 fTX, ob aD 2 [.ref aCU, .ref aMV, .int sp, .int bf, .int ln], ar cI aCU 4 g_11] H := hP
    have hD : va_D A [ar cI aMV 4 fMV, ob aR 4 [.ref aTX, .int (nI n), .int (tKd t n (tNx t n (tNx t n (tNx t n pp)))), .int (nI (tSt t n (tNx t n (tNx t n (tNx t n pp))))), .int (nI (tNx t n (tNx t n (tNx t n (tNx t n pp))))), .int f2_11, .int p2_11], ar cI aTX 300 fTX, ob aD 2 [.ref aCU, .ref aMV, .int sp, .int bf, .int ln], ar cI aCU 4 g_11] := hD
    refine lv_goto (tgt := 73) hx hb dX4_readLine_14 (by decide) ?_
    refine lv_aload_n hx hb dX4_readLine_73 rfl (lv_at hl 0 rfl) ?_
    refine m_cVv (As := []) (rest := []) (wr := [ar cI aMV 4 fMV, ob aD 2 [.ref aCU, .ref aMV, .int sp, .int bf, .int ln], ar cI aCU 4 g_11]) ⟨hx, hb, hml, hown, hts⟩ (c_X4_readSemicolon l D cI cZ aR aTX fTX t n (tNx t n (tNx t n (tNx t n pp))) f2_11 p2_11 (by first | assumption | omega) (tNx_le (t := t) (tNx_le (t := t) (tNx_le (t := t) (hp)))) (by first | assumption | omega)) (cwV 0 hts gX4_readLine_X4_readSemicolon rfl rfl rfl (by decide +kernel) ⟨Nat.le_of_ble_eq_true rfl, Nat.le_of_ble_eq_true rfl⟩) hN hK hP hD hS hA [1, 2] [0, 3, 4] rfl rfl (by decide) (by decide) (by decide) 0 (ci := 4) rfl rfl rfl rfl hl.1 rfl (Nat.le_of_ble_eq_true rfl) dX4_readLine_74 ⟨Nat.le_of_ble_eq_true rfl, Nat.le_of_ble_eq_true rfl⟩ (fun u_74 H locs hq_74 hP hD hS => ?_)
    obtain ⟨f2_74, p2_74⟩ := u_74
    replace hq_74 : (f2_74, p2_74) = seB t n (tNx t n (tNx t n (tNx t n pp))) (f2_11, p2_11) := hq_74
    have hP : va_P D vwCl [ar cI aMV 4 fMV, ob aD 2 [.ref aCU, .ref aMV, .int sp, .int bf, .int ln], ar cI aCU 4 g_11, ob aR 4 [.ref aTX, .int (nI n), .int (tKd t n (tNx t n (tNx t n (tNx t n (tNx t n pp))))), .int (nI (tSt t n (tNx t n (tNx t n (tNx t n (tNx t n pp)))))), .int (nI (tNx t n (tNx t n (tNx t n (tNx t n (tNx t n pp)))))), .int f2_74, .int p2_74], ar cI aTX 300 fTX] H := hP
    have hD : va_D A [ar cI aMV 4 fMV, ob aD 2 [.ref aCU, .ref aMV, .int sp, .int bf, .int ln], ar cI aCU 4 g_11, ob aR 4 [.ref aTX, .int (nI n), .int (tKd t n (tNx t n (tNx t n (tNx t n (tNx t n pp))))), .int (nI (tSt t n (tNx t n (tNx t n (tNx t n (tNx t n pp)))))), .int (nI (tNx t n (tNx t n (tNx t n (tNx t n (tNx t n pp)))))), .int f2_74, .int p2_74], ar cI aTX 300 fTX] := hD
    refine lv_aload_n hx hb dX4_readLine_77 rfl (lv_at hl 1 rfl) ?_
    refine lv_dup hx hb dX4_readLine_78 rfl ?_
    refine va_getN (D := D) (ci := 2) (v := .int ln) (C := RX2) (T := TX2) (N := 5) hx hb hts inX2 hown hK hP 1 rfl rfl 4 (by decide) fl89 (fun _ h9 => h9) rfl dX4_readLine_79 ?_
    refine lv_iconst (v := 1) hx hb dX4_readLine_82 (by decide) ?_
    refine lv_iadd hx hb dX4_readLine_83 ?_
    refine va_putN (D := D) (ci := 2) (v := .int (ln + 1)) (ty := .int) (C := RX2) (T := TX2) (N := 5) hx hb hts inX2 tyX2 tyX2_ok nmX2 hown hK hP hD hS 1 rfl rfl 4 (by decide) fl89 (fun _ h9 => h9) rfl (by decide +kernel) (rfl) (rfl) (Nat.le_of_ble_eq_true rfl) dX4_readLine_84 (fun H locs hP hD hS => ?_)
    have hP : va_P D vwCl [ar cI aMV 4 fMV, ob aD 2 [.ref aCU, .ref aMV, .int sp, .int bf, .int (ln + 1)], ar cI aCU 4 g_11, ob aR 4 [.ref aTX, .int (nI n), .int (tKd t n (tNx t n (tNx t n (tNx t n (tNx t n pp))))), .int (nI (tSt t n (tNx t n (tNx t n (tNx t n (tNx t n pp)))))), .int (nI (tNx t n (tNx t n (tNx t n (tNx t n (tNx t n pp)))))), .int f2_74, .int p2_74], ar cI aTX 300 fTX] H := hP
    have hD : va_D A [ar cI aMV 4 fMV, ob aD 2 [.ref aCU, .ref aMV, .int sp, .int bf, .int (ln + 1)], ar cI aCU 4 g_11, ob aR 4 [.ref aTX, .int (nI n), .int (tKd t n (tNx t n (tNx t n (tNx t n (tNx t n pp))))), .int (nI (tSt t n (tNx t n (tNx t n (tNx t n (tNx t n pp)))))), .int (nI (tNx t n (tNx t n (tNx t n (tNx t n (tNx t n pp)))))), .int f2_74, .int p2_74], ar cI aTX 300 fTX] := hD
    have hY := isw_yes hq_3 c_6
    have hWN : wN t n pp = 0 := wN_at (by decide) (fun i hi => absurd hi (Nat.not_lt_zero i)) hY
    have hY4 : tKd t n pp = 1 ∧ ¬ wN t n pp = 4 := ⟨hY.1, by rw [hWN]; decide⟩
    exact ret ((tNx t n (tNx t n (tNx t n (tNx t n pp)))), f2_74, p2_74, sp, bf, g_11, fMV) _ _ _ _ dX4_readLine_87 (⟨tNx_le (t := t) (tNx_le (t := t) (tNx_le (t := t) (tNx_le (t := t) (hp)))), cls_cut (told := fCU) (mx := 100) hY4 hWN (by decide) rfl (fun a ha => (by rw [show 4 * 0 + a = a by omega]; exact (ruC_c ha).symm)) (hq_74.trans (by rw [hq_11.1])) (by show ruC g_11 fMV sp bf = _; rw [hq_11.2, ruC_cu (Nat.lt_of_le_of_lt nuV_le (by decide)), Nat.mul_zero, Nat.zero_add]) rfl⟩) (hP.sub [3, 4, 1, 2, 0] rfl) (hD.sub [3, 4, 1, 2, 0] (by decide) rfl) hS
abbrev r_c_X4_read : Room := { frames := 6, cells := 0, slots := 0, locals := 128 }
set_option maxHeartbeats 4000000 in
set_option maxRecDepth 100000 in
theorem c_X4_read (l : Launch) (D : va_G) (cI cZ : ClassId) (ad adv : Nat → Nat) (aR : Nat) (aTX : Nat) (aTA : Nat) (aBY : Nat) (aD : Nat) (aCU : Nat) (aMV : Nat) (fTX : Nat → Int32) (fBY : Nat → Int32) (n : Nat) (nt : Nat) (n0 : Int32) (kd : Int32) (st : Int32) (nx : Int32) (fa : Int32) (fp : Int32) (fCU : Nat → Int32) (fMV : Nat → Int32) (sp : Int32) (bf : Int32) (ln : Int32) (hnt : nt ≤ 300) (hn9 : n ≤ nt) : MVE l yX4_read wsX4_read r_c_X4_read D cI cZ ad adv [.ref aR, .ref aTA, .int (nI n), .ref aD] [ob aR 4 [.ref aTX, .int n0, .int kd, .int st, .int nx, .int fa, .int fp], ar cI aTX 300 fTX, ob aTA 5 [.ref aBY, .int (nI nt)], ar cI aBY 300 fBY, ob aD 2 [.ref aCU, .ref aMV, .int sp, .int bf, .int ln], ar cI aCU 4 fCU, ar cI aMV 4 fMV] (fun (u : (Nat → Int32) × Int32 × Int32 × Int32 × Int32 × Int32 × Int32 × Int32 × Int32 × (Nat → Int32) × (Nat → Int32)) => ∃ X, Reads fBY n 0 ru0 0 X ∧ txC (ruC u.2.2.2.2.2.2.2.2.2.1 u.2.2.2.2.2.2.2.2.2.2 u.2.2.2.2.2.2.1 u.2.2.2.2.2.2.2.1) u.2.2.2.2.1 u.2.2.2.2.2.1 u.2.2.2.2.2.2.2.2.1 X) (fun (u : (Nat → Int32) × Int32 × Int32 × Int32 × Int32 × Int32 × Int32 × Int32 × Int32 × (Nat → Int32) × (Nat → Int32)) => [ob aR 4 [.ref aTX, .int (nI n), .int u.2.1, .int u.2.2.1, .int u.2.2.2.1, .int u.2.2.2.2.1, .int u.2.2.2.2.2.1], ar cI aTX 300 u.1, ob aTA 5 [.ref aBY, .int (nI nt)], ar cI aBY 300 fBY, ob aD 2 [.ref aCU, .ref aMV, .int u.2.2.2.2.2.2.1, .int u.2.2.2.2.2.2.2.1, .int u.2.2.2.2.2.2.2.2.1], ar cI aCU 4 u.2.2.2.2.2.2.2.2.2.1, ar cI aMV 4 u.2.2.2.2.2.2.2.2.2.2]) 0 0 := by
  refine MVE.of (cc := cX4_read) (maxL := 5) (by decide) rfl (Nat.le_of_ble_eq_true rfl) ?_
  intro p e s m below meth c A Q hx hb hml hown hts hN hK hA hE ret hP hD hS ls hl hmn
  have hown : s.vm.findClass RX4 = some m.cls := hown
  have inX4 : ∀ w ∈ wsX40, w ∈ wsX4_read := by decide +kernel
  have inX5 : ∀ w ∈ wsX50, w ∈ wsX4_read := by decide +kernel
  have fl9 := hts (.fieldLink RX4 9 "AdvanceBook$Reader" "text" "[I") (by decide +kernel)
  have fl15 := hts (.fieldLink RX4 15 "AdvanceBook$Reader" "length" "I") (by decide +kernel)
  have fl19 := hts (.fieldLink RX4 19 "AdvanceBook$Reader" "kind" "I") (by decide +kernel)
  have fl25 := hts (.fieldLink RX4 25 "AdvanceBook$Reader" "next" "I") (by decide +kernel)
  have fl28 := hts (.fieldLink RX4 28 "AdvanceBook$Reader" "fault" "I") (by decide +kernel)
  have fl31 := hts (.fieldLink RX4 31 "AdvanceBook$Reader" "faultPlace" "I") (by decide +kernel)
  have fl34 : (Cond.fieldLinkNest RX4 34 "AdvanceBook$Tape" "length" "I" "AdvanceBook").before (([.ref aR, .ref aTA, .int (nI n), .ref aD] : List Value).toArray) s = true := nest_useF hN (by decide +kernel)
  have fl43 : (Cond.fieldLinkNest RX4 43 "AdvanceBook$Tape" "bytes" "[I" "AdvanceBook").before (([.ref aR, .ref aTA, .int (nI n), .ref aD] : List Value).toArray) s = true := nest_useF hN (by decide +kernel)
  have hP : va_P D vwCl [ob aR 4 [.ref aTX, .int n0, .int kd, .int st, .int nx, .int fa, .int fp], ar cI aTX 300 fTX, ob aTA 5 [.ref aBY, .int (nI nt)], ar cI aBY 300 fBY, ob aD 2 [.ref aCU, .ref aMV, .int sp, .int bf, .int ln], ar cI aCU 4 fCU, ar cI aMV 4 fMV] s.heap := hP
  have hD : va_D A [ob aR 4 [.ref aTX, .int n0, .int kd, .int st, .int nx, .int fa, .int fp], ar cI aTX 300 fTX, ob aTA 5 [.ref aBY, .int (nI nt)], ar cI aBY 300 fBY, ob aD 2 [.ref aCU, .ref aMV, .int sp, .int bf, .int ln], ar cI aCU 4 fCU, ar cI aMV 4 fMV] := hD
  have hl : lv_has ls 5 [(0, .ref aR), (1, .ref aTA), (2, .int (nI n)), (3, .ref aD)] := hl
  refine lv_aload_n hx hb dX4_read_0 rfl (lv_at hl 0 rfl) ?_
  refine lv_iload_n hx hb dX4_read_1 rfl (lv_at hl 2 rfl) ?_
  refine lv_aload_n hx hb dX4_read_2 rfl (lv_at hl 1 rfl) ?_
  refine va_getN (D := D) (ci := 5) (v := .int (nI nt)) (C := RX5) (T := TX5) (N := 2) hx hb hts inX5 hown hK hP 2 rfl rfl 1 (by decide) fl34 (fun _ h9 => h9) rfl dX4_read_3 ?_
  refine va_mmin hx hb (by rw [hml]; exact hl.1.symm) hown (hts (.methodLink RX4 37 Lib.Math.min.name) (by decide +kernel)) (hts (.static Lib.Math.min.name) (by decide +kernel)) (hts (.initialized "java/lang/Math") (by decide +kernel)) (hts (.code Lib.Math.min.name Lib.Math.min.code 2 (some .int)) (by decide +kernel)) (Nat.le_of_ble_eq_true rfl) (Nat.le_of_ble_eq_true rfl) (Nat.le_of_ble_eq_true rfl) (Nat.le_of_ble_eq_true rfl) dX4_read_6 ?_
  rw [if_neg (fun z => absurd ((nI_ltI (by omega) (by omega)).mp z) (by omega))]
  refine va_put (D := D) (ci := 4) (v := .int (nI n)) (ty := .int) (C := RX4) (T := TX4) (N := 7) hx hb hts inX4 tyX4 tyX4_ok nmX4 hown hK hP hD hS 0 rfl rfl 1 (by decide) fl15 (fun _ h9 => h9) rfl (by decide +kernel) (rfl) (rfl) (Nat.le_of_ble_eq_true rfl) dX4_read_9 (fun H locs hP hD hS => ?_)
  have hP : va_P D vwCl [ob aR 4 [.ref aTX, .int (nI n), .int kd, .int st, .int nx, .int fa, .int fp], ar cI aTX 300 fTX, ob aTA 5 [.ref aBY, .int (nI nt)], ar cI aBY 300 fBY, ob aD 2 [.ref aCU, .ref aMV, .int sp, .int bf, .int ln], ar cI aCU 4 fCU, ar cI aMV 4 fMV] H := hP
  have hD : va_D A [ob aR 4 [.ref aTX, .int (nI n), .int kd, .int st, .int nx, .int fa, .int fp], ar cI aTX 300 fTX, ob aTA 5 [.ref aBY, .int (nI nt)], ar cI aBY 300 fBY, ob aD 2 [.ref aCU, .ref aMV, .int sp, .int bf, .int ln], ar cI aCU 4 fCU, ar cI aMV 4 fMV] := hD
  refine lv_iconst (v := 0) hx hb dX4_read_12 (by decide) ?_
  refine lv_istore (lv' := [(4, .int 0), (0, .ref aR), (1, .ref aTA), (2, .int (nI n)), (3, .ref aD)]) hx hb dX4_read_13 hl (by decide) rfl (fun ls hl => ?_)
  have L_15 : ∀ (n_15 : Nat) (k : Nat) (hTX : Nat → Int32), (n - k < n_15) → (k ≤ n) → (hTX = fil fBY fTX k) → ∀ (H : Heap) (locs : List Loc), va_P D vwCl [ob aR 4 [.ref aTX, .int (nI n), .int kd, .int st, .int nx, .int fa, .int fp], ar cI aTX 300 hTX, ob aTA 5 [.ref aBY, .int (nI nt)], ar cI aBY 300 fBY, ob aD 2 [.ref aCU, .ref aMV, .int sp, .int bf, .int ln], ar cI aCU 4 fCU, ar cI aMV 4 fMV] H → va_D A [ob aR 4 [.ref aTX, .int (nI n), .int kd, .int st, .int nx, .int fa, .int fp], ar cI aTX 300 hTX, ob aTA 5 [.ref aBY, .int (nI nt)], ar cI aBY 300 fBY, ob aD 2 [.ref aCU, .ref aMV, .int sp, .int bf, .int ln], ar cI aCU 4 fCU, ar cI aMV 4 fMV] → va_S A s.heap H locs → ∀ ls : Array Slot, lv_has ls 5 [(0, .ref aR), (1, .ref aTA), (2, .int (nI n)), (3, .ref aD), (4, .int (nI k))] → W p l e r_c_X4_read s m (([.ref aR, .ref aTA, .int (nI n), .ref aD] : List Value).toArray) below meth c H locs 0 0 Q (F0 m 15 ls []) := by
    intro n_15
    induction n_15 with
    | zero => intro k hTX hfu; exact absurd hfu (Nat.not_lt_zero _)
    | succ n_15 ih_15 =>
      intro k hTX hfu_15 hk hh H locs hP hD hS ls hl
      refine lv_iload hx hb dX4_read_15 (lv_at hl 4 rfl) ?_
      refine lv_aload_n hx hb dX4_read_17 rfl (lv_at hl 0 rfl) ?_
      refine va_get (D := D) (ci := 4) (v := .int (nI n)) (C := RX4) (T := TX4) (N := 7) hx hb hts inX4 hown hK hP 0 rfl rfl 1 (by decide) fl15 (fun _ h9 => h9) rfl dX4_read_18 ?_
      refine lv_icmp_ge (tgt := 44) hx hb dX4_read_21 (by decide) (fun c_21 => ?_) (fun c_21 => ?_)
      · skip
        have k_21 : n ≤ k := (nI_leI (a := n) (b := k) (by omega) (by omega)).mp c_21
        have ek : k = n := (by omega)
        rw [ek] at hh
        have ht : ∀ j, j < n → hTX j = fBY j := fun j hj => by rw [hh]; exact fil_lt hj
        refine lv_aload_n hx hb dX4_read_44 rfl (lv_at hl 0 rfl) ?_
        refine lv_iconst (v := 0) hx hb dX4_read_45 (by decide) ?_
        refine va_put (D := D) (ci := 4) (v := .int 0) (ty := .int) (C := RX4) (T := TX4) (N := 7) hx hb hts inX4 tyX4 tyX4_ok nmX4 hown hK hP hD hS 0 rfl rfl 4 (by decide) fl25 (fun _ h9 => h9) rfl (by decide +kernel) (rfl) (rfl) (Nat.le_of_ble_eq_true rfl) dX4_read_46 (fun H locs hP hD hS => ?_)
        have hP : va_P D vwCl [ob aR 4 [.ref aTX, .int (nI n), .int kd, .int st, .int 0, .int fa, .int fp], ar cI aTX 300 hTX, ob aTA 5 [.ref aBY, .int (nI nt)], ar cI aBY 300 fBY, ob aD 2 [.ref aCU, .ref aMV, .int sp, .int bf, .int ln], ar cI aCU 4 fCU, ar cI aMV 4 fMV] H := hP
        have hD : va_D A [ob aR 4 [.ref aTX, .int (nI n), .int kd, .int st, .int 0, .int fa, .int fp], ar cI aTX 300 hTX, ob aTA 5 [.ref aBY, .int (nI nt)], ar cI aBY 300 fBY, ob aD 2 [.ref aCU, .ref aMV, .int sp, .int bf, .int ln], ar cI aCU 4 fCU, ar cI aMV 4 fMV] := hD
        refine lv_aload_n hx hb dX4_read_49 rfl (lv_at hl 0 rfl) ?_
        refine lv_iconst (v := 0) hx hb dX4_read_50 (by decide) ?_
        refine va_put (D := D) (ci := 4) (v := .int 0) (ty := .int) (C := RX4) (T := TX4) (N := 7) hx hb hts inX4 tyX4 tyX4_ok nmX4 hown hK hP hD hS 0 rfl rfl 5 (by decide) fl28 (fun _ h9 => h9) rfl (by decide +kernel) (rfl) (rfl) (Nat.le_of_ble_eq_true rfl) dX4_read_51 (fun H locs hP hD hS => ?_)
        have hP : va_P D vwCl [ob aR 4 [.ref aTX, .int (nI n), .int kd, .int st, .int 0, .int 0, .int fp], ar cI aTX 300 hTX, ob aTA 5 [.ref aBY, .int (nI nt)], ar cI aBY 300 fBY, ob aD 2 [.ref aCU, .ref aMV, .int sp, .int bf, .int ln], ar cI aCU 4 fCU, ar cI aMV 4 fMV] H := hP
        have hD : va_D A [ob aR 4 [.ref aTX, .int (nI n), .int kd, .int st, .int 0, .int 0, .int fp], ar cI aTX 300 hTX, ob aTA 5 [.ref aBY, .int (nI nt)], ar cI aBY 300 fBY, ob aD 2 [.ref aCU, .ref aMV, .int sp, .int bf, .int ln], ar cI aCU 4 fCU, ar cI aMV 4 fMV] := hD
        refine lv_aload_n hx hb dX4_read_54 rfl (lv_at hl 0 rfl) ?_
        refine lv_iconst (v := (-1)) hx hb dX4_read_55 (by decide) ?_
        refine va_put (D := D) (ci := 4) (v := .int (-1)) (ty := .int) (C := RX4) (T := TX4) (N := 7) hx hb hts inX4 tyX4 tyX4_ok nmX4 hown hK hP hD hS 0 rfl rfl 6 (by decide) fl31 (fun _ h9 => h9) rfl (by decide +kernel) (rfl) (rfl) (Nat.le_of_ble_eq_true rfl) dX4_read_56 (fun H locs hP hD hS => ?_)
        have hP : va_P D vwCl [ob aR 4 [.ref aTX, .int (nI n), .int kd, .int st, .int 0, .int 0, .int (-1)], ar cI aTX 300 hTX, ob aTA 5 [.ref aBY, .int (nI nt)], ar cI aBY 300 fBY, ob aD 2 [.ref aCU, .ref aMV, .int sp, .int bf, .int ln], ar cI aCU 4 fCU, ar cI aMV 4 fMV] H := hP
        have hD : va_D A [ob aR 4 [.ref aTX, .int (nI n), .int kd, .int st, .int 0, .int 0, .int (-1)], ar cI aTX 300 hTX, ob aTA 5 [.ref aBY, .int (nI nt)], ar cI aBY 300 fBY, ob aD 2 [.ref aCU, .ref aMV, .int sp, .int bf, .int ln], ar cI aCU 4 fCU, ar cI aMV 4 fMV] := hD
        refine lv_aload_n hx hb dX4_read_59 rfl (lv_at hl 3 rfl) ?_
        refine m_cVv (As := []) (rest := []) (wr := [ob aR 4 [.ref aTX, .int (nI n), .int kd, .int st, .int 0, .int 0, .int (-1)], ar cI aTX 300 hTX, ob aTA 5 [.ref aBY, .int (nI nt)], ar cI aBY 300 fBY]) ⟨hx, hb, hml, hown, hts⟩ (c_X2_empty l D cI cZ aD aCU aMV fCU fMV sp bf ln ) (cwV 0 hts gX4_read_X2_empty rfl rfl rfl (by decide +kernel) ⟨Nat.le_of_ble_eq_true rfl, Nat.le_of_ble_eq_true rfl⟩) hN hK hP hD hS hA [4, 5, 6] [0, 1, 2, 3] rfl rfl (by decide) (by decide) (by decide) 0 (ci := 2) rfl rfl rfl rfl hl.1 rfl (Nat.le_of_ble_eq_true rfl) dX4_read_60 ⟨Nat.le_of_ble_eq_true rfl, Nat.le_of_ble_eq_true rfl⟩ (fun u_60 H locs hq_60 hP hD hS => ?_)
        obtain ⟨gCU_60, gMV_60⟩ := u_60
        replace hq_60 : gCU_60 = fil (fun _ => -1) fCU 4 ∧ gMV_60 = fil (fun _ => -1) fMV 4 := hq_60
        have hP : va_P D vwCl [ob aR 4 [.ref aTX, .int (nI n), .int kd, .int st, .int 0, .int 0, .int (-1)], ar cI aTX 300 hTX, ob aTA 5 [.ref aBY, .int (nI nt)], ar cI aBY 300 fBY, ob aD 2 [.ref aCU, .ref aMV, .int (-1), .int (-1), .int 0], ar cI aCU 4 gCU_60, ar cI aMV 4 gMV_60] H := hP
        have hD : va_D A [ob aR 4 [.ref aTX, .int (nI n), .int kd, .int st, .int 0, .int 0, .int (-1)], ar cI aTX 300 hTX, ob aTA 5 [.ref aBY, .int (nI nt)], ar cI aBY 300 fBY, ob aD 2 [.ref aCU, .ref aMV, .int (-1), .int (-1), .int 0], ar cI aCU 4 gCU_60, ar cI aMV 4 gMV_60] := hD
        refine lv_aload_n hx hb dX4_read_63 rfl (lv_at hl 0 rfl) ?_
        refine m_cVv (As := []) (rest := []) (wr := [ob aTA 5 [.ref aBY, .int (nI nt)], ar cI aBY 300 fBY, ob aD 2 [.ref aCU, .ref aMV, .int (-1), .int (-1), .int 0], ar cI aCU 4 gCU_60, ar cI aMV 4 gMV_60]) ⟨hx, hb, hml, hown, hts⟩ (c_X4_step l D cI cZ aR aTX hTX fBY n 0 kd st 0 (-1) (by omega) (Nat.zero_le _) (ht)) (cwV 0 hts gX4_read_X4_step rfl rfl rfl (by decide +kernel) ⟨Nat.le_of_ble_eq_true rfl, Nat.le_of_ble_eq_true rfl⟩) hN hK hP hD hS hA [0, 1] [2, 3, 4, 5, 6] rfl rfl (by decide) (by decide) (by decide) 0 (ci := 4) rfl rfl rfl rfl hl.1 rfl (Nat.le_of_ble_eq_true rfl) dX4_read_64 ⟨Nat.le_of_ble_eq_true rfl, Nat.le_of_ble_eq_true rfl⟩ (fun u_64 H locs hq_64 hP hD hS => ?_)
        obtain ⟨k2_64, s2_64, n2_64⟩ := u_64
        replace hq_64 : k2_64 = tKd fBY n 0 ∧ s2_64 = tSt fBY n 0 ∧ n2_64 = tNx fBY n 0 := hq_64
        have hP : va_P D vwCl [ob aTA 5 [.ref aBY, .int (nI nt)], ar cI aBY 300 fBY, ob aD 2 [.ref aCU, .ref aMV, .int (-1), .int (-1), .int 0], ar cI aCU 4 gCU_60, ar cI aMV 4 gMV_60, ob aR 4 [.ref aTX, .int (nI n), .int k2_64, .int (nI s2_64), .int (nI n2_64), .int 0, .int (-1)], ar cI aTX 300 hTX] H := hP
        have hD : va_D A [ob aTA 5 [.ref aBY, .int (nI nt)], ar cI aBY 300 fBY, ob aD 2 [.ref aCU, .ref aMV, .int (-1), .int (-1), .int 0], ar cI aCU 4 gCU_60, ar cI aMV 4 gMV_60, ob aR 4 [.ref aTX, .int (nI n), .int k2_64, .int (nI s2_64), .int (nI n2_64), .int 0, .int (-1)], ar cI aTX 300 hTX] := hD
        obtain ⟨rfl, rfl, rfl⟩ := hq_64
        refine lv_iconst (v := 0) hx hb dX4_read_67 (by decide) ?_
        refine lv_istore (lv' := [(4, .int 0), (0, .ref aR), (1, .ref aTA), (2, .int (nI n)), (3, .ref aD)]) hx hb dX4_read_68 hl (by decide) rfl (fun ls hl => ?_)
        have L_70 : ∀ (n_70 : Nat) (i9 : Nat) (q : Nat) (f3 : Int32) (p3 : Int32) (sp3 : Int32) (bf3 : Int32) (l3 : Int32) (hCU : Nat → Int32) (hMV : Nat → Int32), (n - i9 < n_70) → (q ≤ n) → (i9 ≤ n) → (rdI fBY n q i9 (ruC hCU hMV sp3 bf3) f3 p3 l3) → ∀ (H : Heap) (locs : List Loc), va_P D vwCl [ob aTA 5 [.ref aBY, .int (nI nt)], ar cI aBY 300 fBY, ob aD 2 [.ref aCU, .ref aMV, .int sp3, .int bf3, .int l3], ar cI aCU 4 hCU, ar cI aMV 4 hMV, ob aR 4 [.ref aTX, .int (nI n), .int (tKd fBY n q), .int (nI (tSt fBY n q)), .int (nI (tNx fBY n q)), .int f3, .int p3], ar cI aTX 300 hTX] H → va_D A [ob aTA 5 [.ref aBY, .int (nI nt)], ar cI aBY 300 fBY, ob aD 2 [.ref aCU, .ref aMV, .int sp3, .int bf3, .int l3], ar cI aCU 4 hCU, ar cI aMV 4 hMV, ob aR 4 [.ref aTX, .int (nI n), .int (tKd fBY n q), .int (nI (tSt fBY n q)), .int (nI (tNx fBY n q)), .int f3, .int p3], ar cI aTX 300 hTX] → va_S A s.heap H locs → ∀ ls : Array Slot, lv_has ls 5 [(0, .ref aR), (1, .ref aTA), (2, .int (nI n)), (3, .ref aD), (4, .int (nI i9))] → W p l e r_c_X4_read s m (([.ref aR, .ref aTA, .int (nI n), .ref aD] : List Value).toArray) below meth c H locs 0 0 Q (F0 m 70 ls []) := by
          intro n_70
          induction n_70 with
          | zero => intro i9 q f3 p3 sp3 bf3 l3 hCU hMV hfu; exact absurd hfu (Nat.not_lt_zero _)
          | succ n_70 ih_70 =>
            intro i9 q f3 p3 sp3 bf3 l3 hCU hMV hfu_70 hq9 hi9 hI H locs hP hD hS ls hl
            refine lv_iload hx hb dX4_read_70 (lv_at hl 4 rfl) ?_
            refine lv_aload_n hx hb dX4_read_72 rfl (lv_at hl 0 rfl) ?_
            refine va_get (D := D) (ci := 4) (v := .int (nI n)) (C := RX4) (T := TX4) (N := 7) hx hb hts inX4 hown hK hP 5 rfl rfl 1 (by decide) fl15 (fun _ h9 => h9) rfl dX4_read_73 ?_
            refine lv_icmp_ge (tgt := 105) hx hb dX4_read_76 (by decide) (fun c_76 => ?_) (fun c_76 => ?_)
            · skip
              have k_76 : n ≤ i9 := (nI_leI (a := n) (b := i9) (by omega) (by omega)).mp c_76
              exact ret (hTX, (tKd fBY n q), (nI (tSt fBY n q)), (nI (tNx fBY n q)), f3, p3, sp3, bf3, l3, hCU, hMV) _ _ _ _ dX4_read_105 (rdI_end hq9 hI (by first | exact Or.inl k_76 | exact Or.inr (Or.inl c_84) | exact Or.inr (Or.inr c_91))) (hP.sub [5, 6, 0, 1, 2, 3, 4] rfl) (hD.sub [5, 6, 0, 1, 2, 3, 4] (by decide) rfl) hS
            · skip
              have k_76 : ¬ n ≤ i9 := fun h9 => c_76 ((nI_leI (a := n) (b := i9) (by omega) (by omega)).mpr h9)
              refine lv_aload_n hx hb dX4_read_79 rfl (lv_at hl 0 rfl) ?_
              refine va_get (D := D) (ci := 4) (v := .int (tKd fBY n q)) (C := RX4) (T := TX4) (N := 7) hx hb hts inX4 hown hK hP 5 rfl rfl 2 (by decide) fl19 (fun _ h9 => h9) rfl dX4_read_80 ?_
              refine lv_iconst (v := 5) hx hb dX4_read_83 (by decide) ?_
              refine lv_icmp_eq (tgt := 105) hx hb dX4_read_84 (by decide) (fun c_84 => ?_) (fun c_84 => ?_)
              · skip
                exact ret (hTX, (tKd fBY n q), (nI (tSt fBY n q)), (nI (tNx fBY n q)), f3, p3, sp3, bf3, l3, hCU, hMV) _ _ _ _ dX4_read_105 (rdI_end hq9 hI (by first | exact Or.inl k_76 | exact Or.inr (Or.inl c_84) | exact Or.inr (Or.inr c_91))) (hP.sub [5, 6, 0, 1, 2, 3, 4] rfl) (hD.sub [5, 6, 0, 1, 2, 3, 4] (by decide) rfl) hS
              · skip
                refine lv_aload_n hx hb dX4_read_87 rfl (lv_at hl 0 rfl) ?_
                refine va_get (D := D) (ci := 4) (v := .int f3) (C := RX4) (T := TX4) (N := 7) hx hb hts inX4 hown hK hP 5 rfl rfl 5 (by decide) fl28 (fun _ h9 => h9) rfl dX4_read_88 ?_
                refine lv_if_ne (tgt := 105) hx hb dX4_read_91 (by decide) (fun c_91 => ?_) (fun c_91 => ?_)
                · skip
                  exact ret (hTX, (tKd fBY n q), (nI (tSt fBY n q)), (nI (tNx fBY n q)), f3, p3, sp3, bf3, l3, hCU, hMV) _ _ _ _ dX4_read_105 (rdI_end hq9 hI (by first | exact Or.inl k_76 | exact Or.inr (Or.inl c_84) | exact Or.inr (Or.inr c_91))) (hP.sub [5, 6, 0, 1, 2, 3, 4] rfl) (hD.sub [5, 6, 0, 1, 2, 3, 4] (by decide) rfl) hS
                · skip
                  subst c_91
                  refine lv_aload_n hx hb dX4_read_94 rfl (lv_at hl 0 rfl) ?_
                  refine lv_aload_n hx hb dX4_read_95 rfl (lv_at hl 3 rfl) ?_
                  refine m_cVvE (As := [.ref aD]) (rest := []) (wr := [ob aTA 5 [.ref aBY, .int (nI nt)], ar cI aBY 300 fBY]) ⟨hx, hb, hml, hown, hts⟩ (c_X4_readLine l D cI cZ ad adv aR aTX aD aCU aMV hTX fBY n q hCU hMV sp3 bf3 l3 p3 (by omega) (hq9) (ht)) (cwV 1 hts gX4_read_X4_readLine rfl rfl rfl (by decide +kernel) ⟨Nat.le_of_ble_eq_true rfl, Nat.le_of_ble_eq_true rfl⟩) hN hK hP hD hS hA hE [5, 6, 2, 3, 4] [0, 1] rfl rfl (by decide) (by decide) (by decide) (va_recv hK hP (q0 := 5) (ci := 4) (q := (RX4, TX4, 7)) rfl rfl) rfl hl.1 rfl (Nat.le_of_ble_eq_true rfl) dX4_read_96 ⟨Nat.le_of_ble_eq_true rfl, Nat.le_of_ble_eq_true rfl⟩ (fun u_96 H locs hq_96 hP hD hS => ?_)
                  obtain ⟨q2_96, f2_96, p2_96, sp2_96, bf2_96, gCU_96, gMV_96⟩ := u_96
                  replace hq_96 : q2_96 ≤ n ∧ clsL fBY n (ruC gCU_96 gMV_96 sp2_96 bf2_96) q2_96 f2_96 p2_96 p3 (lineF fBY n q (ruC hCU hMV sp3 bf3)) := hq_96
                  have hP : va_P D vwCl [ob aTA 5 [.ref aBY, .int (nI nt)], ar cI aBY 300 fBY, ob aR 4 [.ref aTX, .int (nI n), .int (tKd fBY n q2_96), .int (nI (tSt fBY n q2_96)), .int (nI (tNx fBY n q2_96)), .int f2_96, .int p2_96], ar cI aTX 300 hTX, ob aD 2 [.ref aCU, .ref aMV, .int sp2_96, .int bf2_96, .int (l3 + 1)], ar cI aCU 4 gCU_96, ar cI aMV 4 gMV_96] H := hP
                  have hD : va_D A [ob aTA 5 [.ref aBY, .int (nI nt)], ar cI aBY 300 fBY, ob aR 4 [.ref aTX, .int (nI n), .int (tKd fBY n q2_96), .int (nI (tSt fBY n q2_96)), .int (nI (tNx fBY n q2_96)), .int f2_96, .int p2_96], ar cI aTX 300 hTX, ob aD 2 [.ref aCU, .ref aMV, .int sp2_96, .int bf2_96, .int (l3 + 1)], ar cI aCU 4 gCU_96, ar cI aMV 4 gMV_96] := hD
                  refine lv_iinc (v := (nI (i9 + 1))) (lv' := [(4, .int (nI (i9 + 1))), (0, .ref aR), (1, .ref aTA), (2, .int (nI n)), (3, .ref aD)]) hx hb dX4_read_99 hl (k := 4) rfl (nI_inc i9 1 (by decide)) (by decide) rfl (fun ls hl => ?_)
                  refine lv_goto (tgt := 70) hx hb dX4_read_102 (by decide) ?_
                  exact ih_70 (i9 + 1) q2_96 f2_96 p2_96 sp2_96 bf2_96 (l3 + 1) gCU_96 gMV_96 (by omega) (hq_96.1) (by omega) (rdI_go hq9 hI rfl c_84 hq_96.2) _ _ (hP.sub [0, 1, 4, 5, 6, 2, 3] rfl) (hD.sub [0, 1, 4, 5, 6, 2, 3] (by decide) rfl) hS ls (lv_sub hl [1, 2, 3, 4, 0] rfl)
        exact L_70 ((n - 0) + 1) 0 0 0 (-1) (-1) (-1) 0 gCU_60 gMV_60 (Nat.lt_succ_self _) (by omega) (by omega) (rdI_0 (ruC_0 (fun a ha => by rw [hq_60.1]; exact fil_lt ha) (fun a ha => by rw [hq_60.2]; exact fil_lt ha))) _ _ (hP) (hD) hS ls (lv_sub hl [1, 2, 3, 4, 0] rfl)
      · skip
        have k_21 : ¬ n ≤ k := fun h9 => c_21 ((nI_leI (a := n) (b := k) (by omega) (by omega)).mpr h9)
        refine lv_aload_n hx hb dX4_read_24 rfl (lv_at hl 0 rfl) ?_
        refine va_get (D := D) (ci := 4) (v := .ref aTX) (C := RX4) (T := TX4) (N := 7) hx hb hts inX4 hown hK hP 0 rfl rfl 0 (by decide) fl9 (fun _ h9 => h9) rfl dX4_read_25 ?_
        refine lv_iload hx hb dX4_read_28 (lv_at hl 4 rfl) ?_
        refine lv_aload_n hx hb dX4_read_30 rfl (lv_at hl 1 rfl) ?_
        refine va_getN (D := D) (ci := 5) (v := .ref aBY) (C := RX5) (T := TX5) (N := 2) hx hb hts inX5 hown hK hP 2 rfl rfl 0 (by decide) fl43 (fun _ h9 => h9) rfl dX4_read_31 ?_
        refine lv_iload hx hb dX4_read_34 (lv_at hl 4 rfl) ?_
        refine m_iald (k := k) hx hb hK hP 3 0 rfl rfl (by omega) (by decide) dX4_read_36 ?_
        refine m_iast (k := k) (x := (fBY k)) hx hb hK hP hD hS 1 0 rfl rfl (by omega) (by decide) dX4_read_37 (fun H locs hP hD hS => ?_)
        have hP : va_P D vwCl [ob aR 4 [.ref aTX, .int (nI n), .int kd, .int st, .int nx, .int fa, .int fp], ar cI aTX 300 (upd hTX k (fBY k)), ob aTA 5 [.ref aBY, .int (nI nt)], ar cI aBY 300 fBY, ob aD 2 [.ref aCU, .ref aMV, .int sp, .int bf, .int ln], ar cI aCU 4 fCU, ar cI aMV 4 fMV] H := hP
        have hD : va_D A [ob aR 4 [.ref aTX, .int (nI n), .int kd, .int st, .int nx, .int fa, .int fp], ar cI aTX 300 (upd hTX k (fBY k)), ob aTA 5 [.ref aBY, .int (nI nt)], ar cI aBY 300 fBY, ob aD 2 [.ref aCU, .ref aMV, .int sp, .int bf, .int ln], ar cI aCU 4 fCU, ar cI aMV 4 fMV] := hD
        refine lv_iinc (v := (nI (k + 1))) (lv' := [(4, .int (nI (k + 1))), (0, .ref aR), (1, .ref aTA), (2, .int (nI n)), (3, .ref aD)]) hx hb dX4_read_38 hl (k := 4) rfl (nI_inc k 1 (by decide)) (by decide) rfl (fun ls hl => ?_)
        refine lv_goto (tgt := 15) hx hb dX4_read_41 (by decide) ?_
        exact ih_15 (k + 1) (upd hTX k (fBY k)) (by omega) (by omega) (fil_step hh rfl) _ _ (hP) (hD) hS ls (lv_sub hl [1, 2, 3, 4, 0] rfl)
  exact L_15 ((n - 0) + 1) 0 fTX (Nat.lt_succ_self _) (by omega) (fil_0.symm) _ _ (hP) (hD) hS ls (lv_sub hl [1, 2, 3, 4, 0] rfl)
abbrev r_c_X7_decree : Room := { frames := 7, cells := 0, slots := 0, locals := 152 }
set_option maxHeartbeats 4000000 in
set_option maxRecDepth 100000 in
theorem c_X7_decree (l : Launch) (D : va_G) (cI cZ : ClassId) (ad adv : Nat → Nat) (aBK : Nat) (aT : Nat) (aTA : Nat) (aR : Nat) (aB : Nat) (aD0 : Nat) (aC : Nat) (aCE : Nat) (aD : Nat) (aD2 : Nat) (aBY : Nat) (aTX : Nat) (aCU2 : Nat) (aMV2 : Nat) (fTX : Nat → Int32) (fBY : Nat → Int32) (nt : Nat) (n0 : Int32) (kd : Int32) (st : Int32) (nx : Int32) (fa : Int32) (fp : Int32) (fCU : Nat → Int32) (fMV : Nat → Int32) (sp : Int32) (bf : Int32) (ln : Int32) (isd : Int32) (x : Int32) (hnt : nt ≤ 300) : MIE l yX7_decree wsX7_decree r_c_X7_decree D cI cZ ad adv [.ref aBK, .int x] [ob aBK 7 [.ref aT, .ref aTA, .ref aR, .ref aB, .ref aD0, .ref aC, .ref aCE, .ref aD, .ref aD2, .int isd], ob aTA 5 [.ref aBY, .int (nI nt)], ar cI aBY 300 fBY, ob aR 4 [.ref aTX, .int n0, .int kd, .int st, .int nx, .int fa, .int fp], ar cI aTX 300 fTX, ob aD2 2 [.ref aCU2, .ref aMV2, .int sp, .int bf, .int ln], ar cI aCU2 4 fCU, ar cI aMV2 4 fMV] (fun (r : Int32) (u : (Nat → Int32) × Int32 × Int32 × Int32 × Int32 × Int32 × Int32 × Int32 × Int32 × Int32 × Int32 × Nat × Nat × Nat × (Nat → Int32) × (Nat → Int32)) => ((x < 0 ∨ nI nt < x) ∧ r = -2 ∧ u.2.2.2.2.2.2.2.2.2.2.2.1 = nt ∧ u.2.2.2.2.2.1 = fa ∧ u.2.2.2.2.2.2.1 = fp ∧ u.2.2.2.2.2.2.2.2.2.2.1 = isd ∧ u.2.2.2.2.2.2.2.2.2.2.2.2.1 = aD ∧ u.2.2.2.2.2.2.2.2.2.2.2.2.2.1 = aD2) ∨ (¬ (x < 0 ∨ nI nt < x) ∧ u.2.2.2.2.2.2.2.2.2.2.2.1 = 0 ∧ ∃ n X, n ≤ nt ∧ x = nI n ∧ Reads fBY n 0 ru0 0 X ∧ dcC (ruC u.2.2.2.2.2.2.2.2.2.2.2.2.2.2.1 u.2.2.2.2.2.2.2.2.2.2.2.2.2.2.2 u.2.2.2.2.2.2.2.1 u.2.2.2.2.2.2.2.2.1) aD aD2 u.2.2.2.2.2.2.2.2.2.2.2.2.1 u.2.2.2.2.2.2.2.2.2.2.2.2.2.1 isd u.2.2.2.2.2.2.2.2.2.2.1 r u.2.2.2.2.2.1 u.2.2.2.2.2.2.1 u.2.2.2.2.2.2.2.2.2.1 X)) (fun (u : (Nat → Int32) × Int32 × Int32 × Int32 × Int32 × Int32 × Int32 × Int32 × Int32 × Int32 × Int32 × Nat × Nat × Nat × (Nat → Int32) × (Nat → Int32)) => [ob aBK 7 [.ref aT, .ref aTA, .ref aR, .ref aB, .ref aD0, .ref aC, .ref aCE, .ref u.2.2.2.2.2.2.2.2.2.2.2.2.1, .ref u.2.2.2.2.2.2.2.2.2.2.2.2.2.1, .int u.2.2.2.2.2.2.2.2.2.2.1], ob aTA 5 [.ref aBY, .int (nI u.2.2.2.2.2.2.2.2.2.2.2.1)], ar cI aBY 300 fBY, ob aR 4 [.ref aTX, .int u.2.1, .int u.2.2.1, .int u.2.2.2.1, .int u.2.2.2.2.1, .int u.2.2.2.2.2.1, .int u.2.2.2.2.2.2.1], ar cI aTX 300 u.1, ob aD2 2 [.ref aCU2, .ref aMV2, .int u.2.2.2.2.2.2.2.1, .int u.2.2.2.2.2.2.2.2.1, .int u.2.2.2.2.2.2.2.2.2.1], ar cI aCU2 4 u.2.2.2.2.2.2.2.2.2.2.2.2.2.2.1, ar cI aMV2 4 u.2.2.2.2.2.2.2.2.2.2.2.2.2.2.2]) 0 0 := by
  refine MIE.of (cc := cX7_decree) (maxL := 3) (by decide) rfl (Nat.le_of_ble_eq_true rfl) ?_
  intro p e s m below meth c A Q hx hb hml hown hts hN hK hA hE ret hP hD hS ls hl
  have hown : s.vm.findClass RX7 = some m.cls := hown
  have inX2 : ∀ w ∈ wsX20, w ∈ wsX7_decree := by decide +kernel
  have inX4 : ∀ w ∈ wsX40, w ∈ wsX7_decree := by decide +kernel
  have inX5 : ∀ w ∈ wsX50, w ∈ wsX7_decree := by decide +kernel
  have inX7 : ∀ w ∈ wsX70, w ∈ wsX7_decree := by decide +kernel
  have fl19 := hts (.fieldLink RX7 19 "AdvanceBook" "tape" "LAdvanceBook$Tape;") (by decide +kernel)
  have fl26 := hts (.fieldLink RX7 26 "AdvanceBook" "reader" "LAdvanceBook$Reader;") (by decide +kernel)
  have fl54 := hts (.fieldLink RX7 54 "AdvanceBook" "decreeAtHand" "LAdvanceBook$Decree;") (by decide +kernel)
  have fl57 := hts (.fieldLink RX7 57 "AdvanceBook" "draft" "LAdvanceBook$Decree;") (by decide +kernel)
  have fl60 := hts (.fieldLink RX7 60 "AdvanceBook" "isDecreeAtHand" "Z") (by decide +kernel)
  have fl64 : (Cond.fieldLinkNest RX7 64 "AdvanceBook$Tape" "length" "I" "AdvanceBook").before (([.ref aBK, .int x] : List Value).toArray) s = true := nest_useF hN (by decide +kernel)
  have fl148 : (Cond.fieldLinkNest RX7 148 "AdvanceBook$Reader" "fault" "I" "AdvanceBook").before (([.ref aBK, .int x] : List Value).toArray) s = true := nest_useF hN (by decide +kernel)
  have fl151 : (Cond.fieldLinkNest RX7 151 "AdvanceBook$Decree" "lines" "I" "AdvanceBook").before (([.ref aBK, .int x] : List Value).toArray) s = true := nest_useF hN (by decide +kernel)
  have hP : va_P D vwCl [ob aBK 7 [.ref aT, .ref aTA, .ref aR, .ref aB, .ref aD0, .ref aC, .ref aCE, .ref aD, .ref aD2, .int isd], ob aTA 5 [.ref aBY, .int (nI nt)], ar cI aBY 300 fBY, ob aR 4 [.ref aTX, .int n0, .int kd, .int st, .int nx, .int fa, .int fp], ar cI aTX 300 fTX, ob aD2 2 [.ref aCU2, .ref aMV2, .int sp, .int bf, .int ln], ar cI aCU2 4 fCU, ar cI aMV2 4 fMV] s.heap := hP
  have hD : va_D A [ob aBK 7 [.ref aT, .ref aTA, .ref aR, .ref aB, .ref aD0, .ref aC, .ref aCE, .ref aD, .ref aD2, .int isd], ob aTA 5 [.ref aBY, .int (nI nt)], ar cI aBY 300 fBY, ob aR 4 [.ref aTX, .int n0, .int kd, .int st, .int nx, .int fa, .int fp], ar cI aTX 300 fTX, ob aD2 2 [.ref aCU2, .ref aMV2, .int sp, .int bf, .int ln], ar cI aCU2 4 fCU, ar cI aMV2 4 fMV] := hD
  have hl : lv_has ls 3 [(0, .ref aBK), (1, .int x)] := hl
  refine lv_iload_n hx hb dX7_decree_0 rfl (lv_at hl 1 rfl) ?_
  refine lv_if_lt (tgt := 15) hx hb dX7_decree_1 (by decide) (fun c_1 => ?_) (fun c_1 => ?_)
  · skip
    refine lv_bipush (v := (-2)) hx hb dX7_decree_15 (by decide) ?_
    exact ret (-2) (fTX, n0, kd, st, nx, fa, fp, sp, bf, ln, isd, nt, aD, aD2, fCU, fMV) _ _ _ _ dX7_decree_17 (Or.inl ⟨by first | exact Or.inl c_1 | exact Or.inr (Int32.not_le.mp c_12), rfl, rfl, rfl, rfl, rfl, rfl, rfl⟩) (hP) (hD) hS
  · skip
    refine lv_iload_n hx hb dX7_decree_4 rfl (lv_at hl 1 rfl) ?_
    refine lv_aload_n hx hb dX7_decree_5 rfl (lv_at hl 0 rfl) ?_
    refine va_get (D := D) (ci := 7) (v := .ref aTA) (C := RX7) (T := TX7) (N := 10) hx hb hts inX7 hown hK hP 0 rfl rfl 1 (by decide) fl19 (fun _ h9 => h9) rfl dX7_decree_6 ?_
    refine va_getN (D := D) (ci := 5) (v := .int (nI nt)) (C := RX5) (T := TX5) (N := 2) hx hb hts inX5 hown hK hP 1 rfl rfl 1 (by decide) fl64 (fun _ h9 => h9) rfl dX7_decree_9 ?_
    refine lv_icmp_le (tgt := 18) hx hb dX7_decree_12 (by decide) (fun c_12 => ?_) (fun c_12 => ?_)
    · skip
      have hxn : ¬ (x < 0 ∨ nI nt < x) := fun z => z.elim c_1 (fun y => Int32.not_le.mpr y c_12)
      obtain ⟨n, hn8, rfl⟩ := nI_of c_1
      have hn9 : n ≤ nt := (nI_leI (by omega) (by omega)).mp c_12
      refine lv_aload_n hx hb dX7_decree_18 rfl (lv_at hl 0 rfl) ?_
      refine va_get (D := D) (ci := 7) (v := .ref aR) (C := RX7) (T := TX7) (N := 10) hx hb hts inX7 hown hK hP 0 rfl rfl 2 (by decide) fl26 (fun _ h9 => h9) rfl dX7_decree_19 ?_
      refine lv_aload_n hx hb dX7_decree_22 rfl (lv_at hl 0 rfl) ?_
      refine va_get (D := D) (ci := 7) (v := .ref aTA) (C := RX7) (T := TX7) (N := 10) hx hb hts inX7 hown hK hP 0 rfl rfl 1 (by decide) fl19 (fun _ h9 => h9) rfl dX7_decree_23 ?_
      refine lv_iload_n hx hb dX7_decree_26 rfl (lv_at hl 1 rfl) ?_
      refine lv_aload_n hx hb dX7_decree_27 rfl (lv_at hl 0 rfl) ?_
      refine va_get (D := D) (ci := 7) (v := .ref aD2) (C := RX7) (T := TX7) (N := 10) hx hb hts inX7 hown hK hP 0 rfl rfl 8 (by decide) fl57 (fun _ h9 => h9) rfl dX7_decree_28 ?_
      refine m_cVvE (As := [.ref aTA, .int (nI n), .ref aD2]) (rest := []) (wr := [ob aBK 7 [.ref aT, .ref aTA, .ref aR, .ref aB, .ref aD0, .ref aC, .ref aCE, .ref aD, .ref aD2, .int isd]]) ⟨hx, hb, hml, hown, hts⟩ (c_X4_read l D cI cZ ad adv aR aTX aTA aBY aD2 aCU2 aMV2 fTX fBY n nt n0 kd st nx fa fp fCU fMV sp bf ln (by first | assumption | omega) (by first | assumption | omega)) (cwV 3 hts gX7_decree_X4_read rfl rfl rfl (by decide +kernel) ⟨Nat.le_of_ble_eq_true rfl, Nat.le_of_ble_eq_true rfl⟩) hN hK hP hD hS hA hE [3, 4, 1, 2, 5, 6, 7] [0] rfl rfl (by decide) (by decide) (by decide) (va_recv hK hP (q0 := 3) (ci := 4) (q := (RX4, TX4, 7)) rfl rfl) rfl hl.1 rfl (Nat.le_of_ble_eq_true rfl) dX7_decree_31 ⟨Nat.le_of_ble_eq_true rfl, Nat.le_of_ble_eq_true rfl⟩ (fun u_31 H locs hq_31 hP hD hS => ?_)
      obtain ⟨gTX_31, k2_31, s2_31, n2_31, f2_31, p2_31, sp2_31, bf2_31, l2_31, gCU_31, gMV_31⟩ := u_31
      replace hq_31 : ∃ X, Reads fBY n 0 ru0 0 X ∧ txC (ruC gCU_31 gMV_31 sp2_31 bf2_31) f2_31 p2_31 l2_31 X := hq_31
      have hP : va_P D vwCl [ob aBK 7 [.ref aT, .ref aTA, .ref aR, .ref aB, .ref aD0, .ref aC, .ref aCE, .ref aD, .ref aD2, .int isd], ob aR 4 [.ref aTX, .int (nI n), .int k2_31, .int s2_31, .int n2_31, .int f2_31, .int p2_31], ar cI aTX 300 gTX_31, ob aTA 5 [.ref aBY, .int (nI nt)], ar cI aBY 300 fBY, ob aD2 2 [.ref aCU2, .ref aMV2, .int sp2_31, .int bf2_31, .int l2_31], ar cI aCU2 4 gCU_31, ar cI aMV2 4 gMV_31] H := hP
      have hD : va_D A [ob aBK 7 [.ref aT, .ref aTA, .ref aR, .ref aB, .ref aD0, .ref aC, .ref aCE, .ref aD, .ref aD2, .int isd], ob aR 4 [.ref aTX, .int (nI n), .int k2_31, .int s2_31, .int n2_31, .int f2_31, .int p2_31], ar cI aTX 300 gTX_31, ob aTA 5 [.ref aBY, .int (nI nt)], ar cI aBY 300 fBY, ob aD2 2 [.ref aCU2, .ref aMV2, .int sp2_31, .int bf2_31, .int l2_31], ar cI aCU2 4 gCU_31, ar cI aMV2 4 gMV_31] := hD
      obtain ⟨X, hX1, hX2⟩ := hq_31
      refine lv_aload_n hx hb dX7_decree_34 rfl (lv_at hl 0 rfl) ?_
      refine va_get (D := D) (ci := 7) (v := .ref aTA) (C := RX7) (T := TX7) (N := 10) hx hb hts inX7 hown hK hP 0 rfl rfl 1 (by decide) fl19 (fun _ h9 => h9) rfl dX7_decree_35 ?_
      refine lv_iconst (v := 0) hx hb dX7_decree_38 (by decide) ?_
      refine va_putN (D := D) (ci := 5) (v := .int 0) (ty := .int) (C := RX5) (T := TX5) (N := 2) hx hb hts inX5 tyX5 tyX5_ok nmX5 hown hK hP hD hS 3 rfl rfl 1 (by decide) fl64 (fun _ h9 => h9) rfl (by decide +kernel) (rfl) (rfl) (Nat.le_of_ble_eq_true rfl) dX7_decree_39 (fun H locs hP hD hS => ?_)
      have hP : va_P D vwCl [ob aBK 7 [.ref aT, .ref aTA, .ref aR, .ref aB, .ref aD0, .ref aC, .ref aCE, .ref aD, .ref aD2, .int isd], ob aR 4 [.ref aTX, .int (nI n), .int k2_31, .int s2_31, .int n2_31, .int f2_31, .int p2_31], ar cI aTX 300 gTX_31, ob aTA 5 [.ref aBY, .int 0], ar cI aBY 300 fBY, ob aD2 2 [.ref aCU2, .ref aMV2, .int sp2_31, .int bf2_31, .int l2_31], ar cI aCU2 4 gCU_31, ar cI aMV2 4 gMV_31] H := hP
      have hD : va_D A [ob aBK 7 [.ref aT, .ref aTA, .ref aR, .ref aB, .ref aD0, .ref aC, .ref aCE, .ref aD, .ref aD2, .int isd], ob aR 4 [.ref aTX, .int (nI n), .int k2_31, .int s2_31, .int n2_31, .int f2_31, .int p2_31], ar cI aTX 300 gTX_31, ob aTA 5 [.ref aBY, .int 0], ar cI aBY 300 fBY, ob aD2 2 [.ref aCU2, .ref aMV2, .int sp2_31, .int bf2_31, .int l2_31], ar cI aCU2 4 gCU_31, ar cI aMV2 4 gMV_31] := hD
      refine lv_aload_n hx hb dX7_decree_42 rfl (lv_at hl 0 rfl) ?_
      refine va_get (D := D) (ci := 7) (v := .ref aR) (C := RX7) (T := TX7) (N := 10) hx hb hts inX7 hown hK hP 0 rfl rfl 2 (by decide) fl26 (fun _ h9 => h9) rfl dX7_decree_43 ?_
      refine va_getN (D := D) (ci := 4) (v := .int f2_31) (C := RX4) (T := TX4) (N := 7) hx hb hts inX4 hown hK hP 1 rfl rfl 5 (by decide) fl148 (fun _ h9 => h9) rfl dX7_decree_46 ?_
      refine lv_if_eq (tgt := 54) hx hb dX7_decree_49 (by decide) (fun c_49 => ?_) (fun c_49 => ?_)
      · skip
        refine lv_aload_n hx hb dX7_decree_54 rfl (lv_at hl 0 rfl) ?_
        refine va_get (D := D) (ci := 7) (v := .ref aD) (C := RX7) (T := TX7) (N := 10) hx hb hts inX7 hown hK hP 0 rfl rfl 7 (by decide) fl54 (fun _ h9 => h9) rfl dX7_decree_55 ?_
        refine lv_astore_n (lv' := [(2, .ref aD), (0, .ref aBK), (1, .int (nI n))]) hx hb dX7_decree_58 rfl hl (by decide) rfl (fun ls hl => ?_)
        refine lv_aload_n hx hb dX7_decree_59 rfl (lv_at hl 1 rfl) ?_
        refine lv_aload_n hx hb dX7_decree_60 rfl (lv_at hl 1 rfl) ?_
        refine va_get (D := D) (ci := 7) (v := .ref aD2) (C := RX7) (T := TX7) (N := 10) hx hb hts inX7 hown hK hP 0 rfl rfl 8 (by decide) fl57 (fun _ h9 => h9) rfl dX7_decree_61 ?_
        refine va_put (D := D) (ci := 7) (v := .ref aD2) (ty := .object "AdvanceBook$Decree") (C := RX7) (T := TX7) (N := 10) hx hb hts inX7 tyX7 tyX7_ok nmX7 hown hK hP hD hS 0 rfl rfl 7 (by decide) fl54 (fun _ h9 => h9) rfl (by decide +kernel) (rfl) (rfl) (Nat.le_of_ble_eq_true rfl) dX7_decree_64 (fun H locs hP hD hS => ?_)
        have hP : va_P D vwCl [ob aBK 7 [.ref aT, .ref aTA, .ref aR, .ref aB, .ref aD0, .ref aC, .ref aCE, .ref aD2, .ref aD2, .int isd], ob aR 4 [.ref aTX, .int (nI n), .int k2_31, .int s2_31, .int n2_31, .int f2_31, .int p2_31], ar cI aTX 300 gTX_31, ob aTA 5 [.ref aBY, .int 0], ar cI aBY 300 fBY, ob aD2 2 [.ref aCU2, .ref aMV2, .int sp2_31, .int bf2_31, .int l2_31], ar cI aCU2 4 gCU_31, ar cI aMV2 4 gMV_31] H := hP
        have hD : va_D A [ob aBK 7 [.ref aT, .ref aTA, .ref aR, .ref aB, .ref aD0, .ref aC, .ref aCE, .ref aD2, .ref aD2, .int isd], ob aR 4 [.ref aTX, .int (nI n), .int k2_31, .int s2_31, .int n2_31, .int f2_31, .int p2_31], ar cI aTX 300 gTX_31, ob aTA 5 [.ref aBY, .int 0], ar cI aBY 300 fBY, ob aD2 2 [.ref aCU2, .ref aMV2, .int sp2_31, .int bf2_31, .int l2_31], ar cI aCU2 4 gCU_31, ar cI aMV2 4 gMV_31] := hD
        refine lv_aload_n hx hb dX7_decree_67 rfl (lv_at hl 1 rfl) ?_
        refine lv_aload_n hx hb dX7_decree_68 rfl (lv_at hl 0 rfl) ?_
        refine va_put (D := D) (ci := 7) (v := .ref aD) (ty := .object "AdvanceBook$Decree") (C := RX7) (T := TX7) (N := 10) hx hb hts inX7 tyX7 tyX7_ok nmX7 hown hK hP hD hS 0 rfl rfl 8 (by decide) fl57 (fun _ h9 => h9) rfl (by decide +kernel) (rfl) (rfl) (Nat.le_of_ble_eq_true rfl) dX7_decree_69 (fun H locs hP hD hS => ?_)
        have hP : va_P D vwCl [ob aBK 7 [.ref aT, .ref aTA, .ref aR, .ref aB, .ref aD0, .ref aC, .ref aCE, .ref aD2, .ref aD, .int isd], ob aR 4 [.ref aTX, .int (nI n), .int k2_31, .int s2_31, .int n2_31, .int f2_31, .int p2_31], ar cI aTX 300 gTX_31, ob aTA 5 [.ref aBY, .int 0], ar cI aBY 300 fBY, ob aD2 2 [.ref aCU2, .ref aMV2, .int sp2_31, .int bf2_31, .int l2_31], ar cI aCU2 4 gCU_31, ar cI aMV2 4 gMV_31] H := hP
        have hD : va_D A [ob aBK 7 [.ref aT, .ref aTA, .ref aR, .ref aB, .ref aD0, .ref aC, .ref aCE, .ref aD2, .ref aD, .int isd], ob aR 4 [.ref aTX, .int (nI n), .int k2_31, .int s2_31, .int n2_31, .int f2_31, .int p2_31], ar cI aTX 300 gTX_31, ob aTA 5 [.ref aBY, .int 0], ar cI aBY 300 fBY, ob aD2 2 [.ref aCU2, .ref aMV2, .int sp2_31, .int bf2_31, .int l2_31], ar cI aCU2 4 gCU_31, ar cI aMV2 4 gMV_31] := hD
        refine lv_aload_n hx hb dX7_decree_72 rfl (lv_at hl 1 rfl) ?_
        refine lv_iconst (v := 1) hx hb dX7_decree_73 (by decide) ?_
        refine va_put (D := D) (ci := 7) (v := .int 1) (ty := .boolean) (C := RX7) (T := TX7) (N := 10) hx hb hts inX7 tyX7 tyX7_ok nmX7 hown hK hP hD hS 0 rfl rfl 9 (by decide) fl60 (fun _ h9 => h9) rfl (by decide +kernel) (rfl) (rfl) (Nat.le_of_ble_eq_true rfl) dX7_decree_74 (fun H locs hP hD hS => ?_)
        have hP : va_P D vwCl [ob aBK 7 [.ref aT, .ref aTA, .ref aR, .ref aB, .ref aD0, .ref aC, .ref aCE, .ref aD2, .ref aD, .int 1], ob aR 4 [.ref aTX, .int (nI n), .int k2_31, .int s2_31, .int n2_31, .int f2_31, .int p2_31], ar cI aTX 300 gTX_31, ob aTA 5 [.ref aBY, .int 0], ar cI aBY 300 fBY, ob aD2 2 [.ref aCU2, .ref aMV2, .int sp2_31, .int bf2_31, .int l2_31], ar cI aCU2 4 gCU_31, ar cI aMV2 4 gMV_31] H := hP
        have hD : va_D A [ob aBK 7 [.ref aT, .ref aTA, .ref aR, .ref aB, .ref aD0, .ref aC, .ref aCE, .ref aD2, .ref aD, .int 1], ob aR 4 [.ref aTX, .int (nI n), .int k2_31, .int s2_31, .int n2_31, .int f2_31, .int p2_31], ar cI aTX 300 gTX_31, ob aTA 5 [.ref aBY, .int 0], ar cI aBY 300 fBY, ob aD2 2 [.ref aCU2, .ref aMV2, .int sp2_31, .int bf2_31, .int l2_31], ar cI aCU2 4 gCU_31, ar cI aMV2 4 gMV_31] := hD
        refine lv_aload_n hx hb dX7_decree_77 rfl (lv_at hl 1 rfl) ?_
        refine va_get (D := D) (ci := 7) (v := .ref aD2) (C := RX7) (T := TX7) (N := 10) hx hb hts inX7 hown hK hP 0 rfl rfl 7 (by decide) fl54 (fun _ h9 => h9) rfl dX7_decree_78 ?_
        refine va_getN (D := D) (ci := 2) (v := .int l2_31) (C := RX2) (T := TX2) (N := 5) hx hb hts inX2 hown hK hP 5 rfl rfl 4 (by decide) fl151 (fun _ h9 => h9) rfl dX7_decree_81 ?_
        exact ret l2_31 (gTX_31, (nI n), k2_31, s2_31, n2_31, f2_31, p2_31, sp2_31, bf2_31, l2_31, 1, 0, aD2, aD, gCU_31, gMV_31) _ _ _ _ dX7_decree_84 (Or.inr ⟨hxn, rfl, n, X, hn9, rfl, hX1, txC_good hX2 c_49⟩) (hP.sub [0, 3, 4, 1, 2, 5, 6, 7] rfl) (hD.sub [0, 3, 4, 1, 2, 5, 6, 7] (by decide) rfl) hS
      · skip
        refine lv_iconst (v := (-1)) hx hb dX7_decree_52 (by decide) ?_
        exact ret (-1) (gTX_31, (nI n), k2_31, s2_31, n2_31, f2_31, p2_31, sp2_31, bf2_31, l2_31, isd, 0, aD, aD2, gCU_31, gMV_31) _ _ _ _ dX7_decree_53 (Or.inr ⟨hxn, rfl, n, X, hn9, rfl, hX1, txC_bad hX2 c_49⟩) (hP.sub [0, 3, 4, 1, 2, 5, 6, 7] rfl) (hD.sub [0, 3, 4, 1, 2, 5, 6, 7] (by decide) rfl) hS
    · skip
      refine lv_bipush (v := (-2)) hx hb dX7_decree_15 (by decide) ?_
      exact ret (-2) (fTX, n0, kd, st, nx, fa, fp, sp, bf, ln, isd, nt, aD, aD2, fCU, fMV) _ _ _ _ dX7_decree_17 (Or.inl ⟨by first | exact Or.inl c_1 | exact Or.inr (Int32.not_le.mp c_12), rfl, rfl, rfl, rfl, rfl, rfl, rfl⟩) (hP) (hD) hS
