abbrev r_c_X1_goRound : Room := { frames := 2, cells := 0, slots := 0, locals := 40 }
set_option maxHeartbeats 4000000 in
set_option maxRecDepth 100000 in
theorem c_X1_goRound (l : Launch) (D : va_G) (cI cZ : ClassId) (aC : Nat) (aPD : Nat) (aOR : Nat) (aHS : Nat) (aUN : Nat) (aFA : Nat) (aLO : Nat) (aLA : Nat) (aP : Nat) (aTD : Nat) (aTC : Nat) (aTK : Nat) (aTR : Nat) (aDY : Nat) (aCP : Nat) (aDB : Nat) (aCR : Nat) (aRK : Nat) (aLF : Nat) (fPD : Nat → Int32) (fOR : Nat → Int32) (fHS : Nat → Int32) (fUN : Nat → Int32) (fFA : Nat → Int32) (fLO : Nat → Int32) (fLA : Nat → Int32) (fDB : Nat → Int32) (fCR : Nat → Int32) (c1 : Int32) (cr : Int32) (np : Nat) (nm : Nat) (rr : Nat) (od : Nat → Nat) (ow : Nat → Int) (pu : Nat → Int) (T : Nat → Int) (fr : Nat → Int32) (HC : CLc np nm fDB fCR od ow pu) (hT : ∀ m, m < nm → 0 ≤ T m ∧ T m ≤ prF fDB ow od m np) (hor : ∀ i, i < np → fOR i = nI (od i)) (HS0 : ClrSt np nm fDB fCR od ow pu T fr fPD fHS fUN fFA fLO fLA) : MI l yX1_goRound wsX1_goRound r_c_X1_goRound D cI cZ [.ref aC, .ref aP, .int (nI rr)] [ob aC 1 [.ref aPD, .ref aOR, .ref aHS, .ref aUN, .ref aFA, .ref aLO, .ref aLA, .int (nI nm), .int c1, .int cr], ar cI aPD 40 fPD, ar cI aOR 40 fOR, ar cI aHS 10 fHS, ar cI aUN 10 fUN, ar cI aFA 10 fFA, ar cI aLO 10 fLO, ar cI aLA 10 fLA, ob aP 3 [.ref aTD, .ref aTC, .ref aTK, .ref aTR, .ref aDY, .ref aCP, .ref aDB, .ref aCR, .ref aRK, .ref aLF, .int (nI np)], ar cI aDB 40 fDB, ar cI aCR 40 fCR] (fun (r : Int32) (u : (Nat → Int32) × (Nat → Int32) × (Nat → Int32) × (Nat → Int32) × (Nat → Int32) × (Nat → Int32)) => ClrSt np nm fDB fCR od ow pu (T2 fDB fCR ow od np pu T) (frX T (T2 fDB fCR ow od np pu T) fr rr) u.1 u.2.1 u.2.2.1 u.2.2.2.1 u.2.2.2.2.1 u.2.2.2.2.2 ∧ ((r = 1 ∧ ∃ m, m < nm ∧ (T2 fDB fCR ow od np pu T) m < T m) ∨ (r = 0 ∧ ∀ m, m < nm → (T2 fDB fCR ow od np pu T) m = T m))) (fun (u : (Nat → Int32) × (Nat → Int32) × (Nat → Int32) × (Nat → Int32) × (Nat → Int32) × (Nat → Int32)) => [ob aC 1 [.ref aPD, .ref aOR, .ref aHS, .ref aUN, .ref aFA, .ref aLO, .ref aLA, .int (nI nm), .int c1, .int cr], ar cI aPD 40 u.1, ar cI aOR 40 fOR, ar cI aHS 10 u.2.1, ar cI aUN 10 u.2.2.1, ar cI aFA 10 u.2.2.2.1, ar cI aLO 10 u.2.2.2.2.1, ar cI aLA 10 u.2.2.2.2.2, ob aP 3 [.ref aTD, .ref aTC, .ref aTK, .ref aTR, .ref aDY, .ref aCP, .ref aDB, .ref aCR, .ref aRK, .ref aLF, .int (nI np)], ar cI aDB 40 fDB, ar cI aCR 40 fCR]) 0 0 := by
  refine MI.ofZ (cc := cX1_goRound) (maxL := 5) (by decide) rfl (Nat.le_of_ble_eq_true rfl) ?_
  intro p e s m below meth c A Q hx hb hml hown hts hN hK hA ret hP hD hS ls hl
  have hown : s.vm.findClass RX1 = some m.cls := hown
  have inX1 : ∀ w ∈ wsX10, w ∈ wsX1_goRound := by decide +kernel
  have fl18 := hts (.fieldLink RX1 18 "AdvanceBook$Clearing" "has" "[I") (by decide +kernel)
  have fl24 := hts (.fieldLink RX1 24 "AdvanceBook$Clearing" "failed" "[I") (by decide +kernel)
  have fl33 := hts (.fieldLink RX1 33 "AdvanceBook$Clearing" "men" "I") (by decide +kernel)
  have hP : va_P D vwCl [ob aC 1 [.ref aPD, .ref aOR, .ref aHS, .ref aUN, .ref aFA, .ref aLO, .ref aLA, .int (nI nm), .int c1, .int cr], ar cI aPD 40 fPD, ar cI aOR 40 fOR, ar cI aHS 10 fHS, ar cI aUN 10 fUN, ar cI aFA 10 fFA, ar cI aLO 10 fLO, ar cI aLA 10 fLA, ob aP 3 [.ref aTD, .ref aTC, .ref aTK, .ref aTR, .ref aDY, .ref aCP, .ref aDB, .ref aCR, .ref aRK, .ref aLF, .int (nI np)], ar cI aDB 40 fDB, ar cI aCR 40 fCR] s.heap := hP
  have hD : va_D A [ob aC 1 [.ref aPD, .ref aOR, .ref aHS, .ref aUN, .ref aFA, .ref aLO, .ref aLA, .int (nI nm), .int c1, .int cr], ar cI aPD 40 fPD, ar cI aOR 40 fOR, ar cI aHS 10 fHS, ar cI aUN 10 fUN, ar cI aFA 10 fFA, ar cI aLO 10 fLO, ar cI aLA 10 fLA, ob aP 3 [.ref aTD, .ref aTC, .ref aTK, .ref aTR, .ref aDY, .ref aCP, .ref aDB, .ref aCR, .ref aRK, .ref aLF, .int (nI np)], ar cI aDB 40 fDB, ar cI aCR 40 fCR] := hD
  have hl : lv_has ls 5 [(0, .ref aC), (1, .ref aP), (2, .int (nI rr))] := hl
  have hnp := HC.1
  have hnm := HC.2.1
  refine lv_iconst (v := 0) hx hb dX1_goRound_0 (by decide) ?_
  refine lv_istore_n (lv' := [(3, .int 0), (0, .ref aC), (1, .ref aP), (2, .int (nI rr))]) hx hb dX1_goRound_1 rfl hl (by decide) rfl (fun ls hl => ?_)
  refine lv_iconst (v := 0) hx hb dX1_goRound_2 (by decide) ?_
  refine lv_istore (lv' := [(4, .int 0), (3, .int 0), (0, .ref aC), (1, .ref aP), (2, .int (nI rr))]) hx hb dX1_goRound_3 hl (by decide) rfl (fun ls hl => ?_)
  have L_5 : ∀ (n_5 : Nat) (mm : Nat) (ch : Int32) (PD1 : Nat → Int32) (HS1 : Nat → Int32) (UN1 : Nat → Int32) (FA1 : Nat → Int32) (LO1 : Nat → Int32) (LA1 : Nat → Int32), (nm - mm < n_5) → (GRinv np nm fDB fCR od ow pu T fr rr mm ch PD1 HS1 UN1 FA1 LO1 LA1) → ∀ (H : Heap) (locs : List Loc), va_P D vwCl [ob aC 1 [.ref aPD, .ref aOR, .ref aHS, .ref aUN, .ref aFA, .ref aLO, .ref aLA, .int (nI nm), .int c1, .int cr], ar cI aPD 40 PD1, ar cI aOR 40 fOR, ar cI aHS 10 HS1, ar cI aUN 10 UN1, ar cI aFA 10 FA1, ar cI aLO 10 LO1, ar cI aLA 10 LA1, ob aP 3 [.ref aTD, .ref aTC, .ref aTK, .ref aTR, .ref aDY, .ref aCP, .ref aDB, .ref aCR, .ref aRK, .ref aLF, .int (nI np)], ar cI aDB 40 fDB, ar cI aCR 40 fCR] H → va_D A [ob aC 1 [.ref aPD, .ref aOR, .ref aHS, .ref aUN, .ref aFA, .ref aLO, .ref aLA, .int (nI nm), .int c1, .int cr], ar cI aPD 40 PD1, ar cI aOR 40 fOR, ar cI aHS 10 HS1, ar cI aUN 10 UN1, ar cI aFA 10 FA1, ar cI aLO 10 LO1, ar cI aLA 10 LA1, ob aP 3 [.ref aTD, .ref aTC, .ref aTK, .ref aTR, .ref aDY, .ref aCP, .ref aDB, .ref aCR, .ref aRK, .ref aLF, .int (nI np)], ar cI aDB 40 fDB, ar cI aCR 40 fCR] → va_S A s.heap H locs → ∀ ls : Array Slot, lv_has ls 5 [(0, .ref aC), (1, .ref aP), (2, .int (nI rr)), (3, .int ch), (4, .int (nI mm))] → W p l e r_c_X1_goRound s m (([.ref aC, .ref aP, .int (nI rr)] : List Value).toArray) below meth c H locs 0 0 Q (F0 m 5 ls []) := by
    intro n_5
    induction n_5 with
    | zero => intro mm ch PD1 HS1 UN1 FA1 LO1 LA1 hfu; exact absurd hfu (Nat.not_lt_zero _)
    | succ n_5 ih_5 =>
      intro mm ch PD1 HS1 UN1 FA1 LO1 LA1 hfu_5 I H locs hP hD hS ls hl
      have hmm0 := I.1
      refine lv_iload hx hb dX1_goRound_5 (lv_at hl 4 rfl) ?_
      refine lv_aload_n hx hb dX1_goRound_7 rfl (lv_at hl 0 rfl) ?_
      refine va_get (D := D) (ci := 1) (v := .int (nI nm)) (C := RX1) (T := TX1) (N := 10) hx hb hts inX1 hown hK hP 0 rfl rfl 7 (by decide) fl33 (fun _ h9 => h9) rfl dX1_goRound_8 ?_
      refine lv_icmp_ge (tgt := 75) hx hb dX1_goRound_11 (by decide) (fun c_11 => ?_) (fun c_11 => ?_)
      · skip
        have k_11 : nm ≤ mm := (nI_leI (a := nm) (b := mm) (by omega) (by omega)).mp c_11
        refine lv_aload_n hx hb dX1_goRound_75 rfl (lv_at hl 0 rfl) ?_
        have emm : mm = nm := (by omega)
        have I2 : GRinv np nm fDB fCR od ow pu T fr rr nm ch PD1 HS1 UN1 FA1 LO1 LA1 := (by rw [emm] at I; exact I)
        refine m_cVv (As := []) (rest := []) (wr := [ar cI aPD 40 PD1, ar cI aOR 40 fOR, ar cI aUN 10 UN1, ar cI aFA 10 FA1, ar cI aLA 10 LA1, ob aP 3 [.ref aTD, .ref aTC, .ref aTK, .ref aTR, .ref aDY, .ref aCP, .ref aDB, .ref aCR, .ref aRK, .ref aLF, .int (nI np)], ar cI aDB 40 fDB, ar cI aCR 40 fCR]) ⟨hx, hb, hml, hown, hts⟩ (c_X1_loseWhatIsNotPaid l D cI cZ aC aPD aOR aHS aUN aFA aLO aLA HS1 LO1 nm c1 cr (hnm)) (cwV 0 hts gX1_goRound_X1_loseWhatIsNotPaid rfl rfl rfl (by decide +kernel) ⟨Nat.le_of_ble_eq_true rfl, Nat.le_of_ble_eq_true rfl⟩) hN hK hP hD hS hA [0, 3, 6] [1, 2, 4, 5, 7, 8, 9, 10] rfl rfl (by decide) (by decide) (by decide) 0 (ci := 1) rfl rfl rfl rfl hl.1 rfl (Nat.le_of_ble_eq_true rfl) dX1_goRound_76 ⟨Nat.le_of_ble_eq_true rfl, Nat.le_of_ble_eq_true rfl⟩ (fun u_76 H locs hq_76 hP hD hS => ?_)
        obtain ⟨gHS_76, gLO_76⟩ := u_76
        have hq_76 : gHS_76 = fil (fun m => HS1 m - LO1 m) HS1 nm ∧ gLO_76 = fil (fun _ => 0) LO1 nm := hq_76
        have hP : va_P D vwCl [ar cI aPD 40 PD1, ar cI aOR 40 fOR, ar cI aUN 10 UN1, ar cI aFA 10 FA1, ar cI aLA 10 LA1, ob aP 3 [.ref aTD, .ref aTC, .ref aTK, .ref aTR, .ref aDY, .ref aCP, .ref aDB, .ref aCR, .ref aRK, .ref aLF, .int (nI np)], ar cI aDB 40 fDB, ar cI aCR 40 fCR, ob aC 1 [.ref aPD, .ref aOR, .ref aHS, .ref aUN, .ref aFA, .ref aLO, .ref aLA, .int (nI nm), .int c1, .int cr], ar cI aHS 10 gHS_76, ar cI aLO 10 gLO_76] H := hP
        have hD : va_D A [ar cI aPD 40 PD1, ar cI aOR 40 fOR, ar cI aUN 10 UN1, ar cI aFA 10 FA1, ar cI aLA 10 LA1, ob aP 3 [.ref aTD, .ref aTC, .ref aTK, .ref aTR, .ref aDY, .ref aCP, .ref aDB, .ref aCR, .ref aRK, .ref aLF, .int (nI np)], ar cI aDB 40 fDB, ar cI aCR 40 fCR, ob aC 1 [.ref aPD, .ref aOR, .ref aHS, .ref aUN, .ref aFA, .ref aLO, .ref aLA, .int (nI nm), .int c1, .int cr], ar cI aHS 10 gHS_76, ar cI aLO 10 gLO_76] := hD
        refine lv_iload_n hx hb dX1_goRound_79 rfl (lv_at hl 3 rfl) ?_
        exact ret ch (PD1, gHS_76, UN1, FA1, gLO_76, LA1) _ _ _ _ dX1_goRound_80 (I2.2.2.2.2.2.2.2.elim (fun q => Or.inr q.1) (fun q => Or.inl q.1)) (⟨GR_end HC hT I2 hq_76.1 hq_76.2, I2.2.2.2.2.2.2.2⟩) (hP.sub [8, 0, 1, 9, 2, 3, 10, 4, 5, 6, 7] rfl) (hD.sub [8, 0, 1, 9, 2, 3, 10, 4, 5, 6, 7] (by decide) rfl) hS
      · skip
        have k_11 : ¬ nm ≤ mm := fun h9 => c_11 ((nI_leI (a := nm) (b := mm) (by omega) (by omega)).mpr h9)
        refine lv_aload_n hx hb dX1_goRound_14 rfl (lv_at hl 0 rfl) ?_
        refine va_get (D := D) (ci := 1) (v := .ref aHS) (C := RX1) (T := TX1) (N := 10) hx hb hts inX1 hown hK hP 0 rfl rfl 2 (by decide) fl18 (fun _ h9 => h9) rfl dX1_goRound_15 ?_
        refine lv_iload hx hb dX1_goRound_18 (lv_at hl 4 rfl) ?_
        refine m_iald (k := mm) hx hb hK hP 3 0 rfl rfl (by omega) (by decide) dX1_goRound_20 ?_
        refine lv_if_ge (tgt := 69) hx hb dX1_goRound_21 (by decide) (fun c_21 => ?_) (fun c_21 => ?_)
        · skip
          refine lv_iinc (v := (nI (mm + 1))) (lv' := [(4, .int (nI (mm + 1))), (0, .ref aC), (1, .ref aP), (2, .int (nI rr)), (3, .int ch)]) hx hb dX1_goRound_69 hl (k := 4) rfl (nI_inc mm 1 (by decide)) (by decide) rfl (fun ls hl => ?_)
          refine lv_goto (tgt := 5) hx hb dX1_goRound_72 (by decide) ?_
          exact ih_5 (mm + 1) ch PD1 HS1 UN1 FA1 LO1 LA1 (by omega) (by first | exact GR_skip HC I (by omega) (fun q => absurd c_21 (by rw [i32_le, ti0]; rw [i32_lt, ti0] at q; omega)) | exact GR_pay HC hT I (by omega) c21 p1 p2 p3 p4 p5 p6 p7 (by rw [if_pos c_52]) | exact GR_pay HC hT I (by omega) c21 p1 p2 p3 p4 p5 p6 p7 (by rw [if_neg c_52])) _ _ (hP) (hD) hS ls (lv_sub hl [1, 2, 3, 4, 0] rfl)
        · skip
          refine lv_aload_n hx hb dX1_goRound_24 rfl (lv_at hl 0 rfl) ?_
          refine lv_aload_n hx hb dX1_goRound_25 rfl (lv_at hl 1 rfl) ?_
          refine lv_iload hx hb dX1_goRound_26 (lv_at hl 4 rfl) ?_
          refine lv_aload_n hx hb dX1_goRound_28 rfl (lv_at hl 0 rfl) ?_
          refine va_get (D := D) (ci := 1) (v := .ref aHS) (C := RX1) (T := TX1) (N := 10) hx hb hts inX1 hown hK hP 0 rfl rfl 2 (by decide) fl18 (fun _ h9 => h9) rfl dX1_goRound_29 ?_
          refine lv_iload hx hb dX1_goRound_32 (lv_at hl 4 rfl) ?_
          refine m_iald (k := mm) hx hb hK hP 3 0 rfl rfl (by omega) (by decide) dX1_goRound_34 ?_
          refine lv_ineg hx hb dX1_goRound_35 ?_
          have c21 : HS1 mm < 0 := (by rw [i32_lt, ti0]; rw [i32_le, ti0] at c_21; omega)
          obtain ⟨s1, s2, s3, ⟨la, s4, s5, s6⟩, s7⟩ := GR_short HC hT I (by omega) c21
          refine m_cVv (As := [.ref aP, .int (nI mm), .int (-(HS1 mm))]) (rest := []) (wr := [ar cI aFA 10 FA1]) ⟨hx, hb, hml, hown, hts⟩ (c_X1_payLess l D cI cZ aC aPD aOR aHS aUN aFA aLO aLA aP aTD aTC aTK aTR aDY aCP aDB aCR aRK aLF PD1 fOR HS1 UN1 LO1 LA1 fDB fCR (nI nm) c1 cr np nm mm (-(HS1 mm)) od ow (T mm) ((T2 fDB fCR ow od np pu T) mm) la (s1) (hor) (s2) (s3) (s4) (s5) (s6) (s7)) (cwV 3 hts gX1_goRound_X1_payLess rfl rfl rfl (by decide +kernel) ⟨Nat.le_of_ble_eq_true rfl, Nat.le_of_ble_eq_true rfl⟩) hN hK hP hD hS hA [0, 1, 2, 3, 4, 6, 7, 8, 9, 10] [5] rfl rfl (by decide) (by decide) (by decide) 0 (ci := 1) rfl rfl rfl rfl hl.1 rfl (Nat.le_of_ble_eq_true rfl) dX1_goRound_36 ⟨Nat.le_of_ble_eq_true rfl, Nat.le_of_ble_eq_true rfl⟩ (fun u_36 H locs hq_36 hP hD hS => ?_)
          obtain ⟨gPD_36, gHS_36, gUN_36, gLO_36, gLA_36⟩ := u_36
          have hq_36 : (∀ i, i < np → dbN fDB (od i) = mm → (gPD_36 (od i)).toInt = fillP (dbN fDB) ow od mm ((T2 fDB fCR ow od np pu T) mm) i) ∧ (∀ k, k < np → ¬ dbN fDB k = mm → gPD_36 k = PD1 k) ∧ (∀ c, c < nm → (gLO_36 c).toInt = (LO1 c).toInt + dropS fDB fCR od ow mm (T mm) ((T2 fDB fCR ow od np pu T) mm) c np) ∧ (∀ m, m ≠ mm → gLA_36 m = LA1 m) ∧ (∃ l, gLA_36 mm = plI l ∧ l ≤ np ∧ ((T2 fDB fCR ow od np pu T) mm) ≤ preS (dbN fDB) ow od mm l) ∧ gHS_36 = upd HS1 mm (HS1 mm + (-(HS1 mm))) ∧ gUN_36 = upd UN1 mm (UN1 mm + (-(HS1 mm))) := hq_36
          have hP : va_P D vwCl [ar cI aFA 10 FA1, ob aC 1 [.ref aPD, .ref aOR, .ref aHS, .ref aUN, .ref aFA, .ref aLO, .ref aLA, .int (nI nm), .int c1, .int cr], ar cI aPD 40 gPD_36, ar cI aOR 40 fOR, ar cI aHS 10 gHS_36, ar cI aUN 10 gUN_36, ar cI aLO 10 gLO_36, ar cI aLA 10 gLA_36, ob aP 3 [.ref aTD, .ref aTC, .ref aTK, .ref aTR, .ref aDY, .ref aCP, .ref aDB, .ref aCR, .ref aRK, .ref aLF, .int (nI np)], ar cI aDB 40 fDB, ar cI aCR 40 fCR] H := hP
          have hD : va_D A [ar cI aFA 10 FA1, ob aC 1 [.ref aPD, .ref aOR, .ref aHS, .ref aUN, .ref aFA, .ref aLO, .ref aLA, .int (nI nm), .int c1, .int cr], ar cI aPD 40 gPD_36, ar cI aOR 40 fOR, ar cI aHS 10 gHS_36, ar cI aUN 10 gUN_36, ar cI aLO 10 gLO_36, ar cI aLA 10 gLA_36, ob aP 3 [.ref aTD, .ref aTC, .ref aTK, .ref aTR, .ref aDY, .ref aCP, .ref aDB, .ref aCR, .ref aRK, .ref aLF, .int (nI np)], ar cI aDB 40 fDB, ar cI aCR 40 fCR] := hD
          obtain ⟨p1, p2, p3, p4, p5, p6, p7⟩ := hq_36
          refine lv_aload_n hx hb dX1_goRound_39 rfl (lv_at hl 0 rfl) ?_
          refine va_get (D := D) (ci := 1) (v := .ref aFA) (C := RX1) (T := TX1) (N := 10) hx hb hts inX1 hown hK hP 1 rfl rfl 4 (by decide) fl24 (fun _ h9 => h9) rfl dX1_goRound_40 ?_
          refine lv_iload hx hb dX1_goRound_43 (lv_at hl 4 rfl) ?_
          refine lv_aload_n hx hb dX1_goRound_45 rfl (lv_at hl 0 rfl) ?_
          refine va_get (D := D) (ci := 1) (v := .ref aFA) (C := RX1) (T := TX1) (N := 10) hx hb hts inX1 hown hK hP 1 rfl rfl 4 (by decide) fl24 (fun _ h9 => h9) rfl dX1_goRound_46 ?_
          refine lv_iload hx hb dX1_goRound_49 (lv_at hl 4 rfl) ?_
          refine m_iald (k := mm) hx hb hK hP 0 0 rfl rfl (by omega) (by decide) dX1_goRound_51 ?_
          refine lv_if_ne (tgt := 59) hx hb dX1_goRound_52 (by decide) (fun c_52 => ?_) (fun c_52 => ?_)
          · skip
            refine lv_aload_n hx hb dX1_goRound_59 rfl (lv_at hl 0 rfl) ?_
            refine va_get (D := D) (ci := 1) (v := .ref aFA) (C := RX1) (T := TX1) (N := 10) hx hb hts inX1 hown hK hP 1 rfl rfl 4 (by decide) fl24 (fun _ h9 => h9) rfl dX1_goRound_60 ?_
            refine lv_iload hx hb dX1_goRound_63 (lv_at hl 4 rfl) ?_
            refine m_iald (k := mm) hx hb hK hP 0 0 rfl rfl (by omega) (by decide) dX1_goRound_65 ?_
            refine m_iast (k := mm) (x := (FA1 mm)) hx hb hK hP hD hS 0 0 rfl rfl (by omega) (by decide) dX1_goRound_66 (fun H locs hP hD hS => ?_)
            have hP : va_P D vwCl [ar cI aFA 10 (upd FA1 mm (FA1 mm)), ob aC 1 [.ref aPD, .ref aOR, .ref aHS, .ref aUN, .ref aFA, .ref aLO, .ref aLA, .int (nI nm), .int c1, .int cr], ar cI aPD 40 gPD_36, ar cI aOR 40 fOR, ar cI aHS 10 gHS_36, ar cI aUN 10 gUN_36, ar cI aLO 10 gLO_36, ar cI aLA 10 gLA_36, ob aP 3 [.ref aTD, .ref aTC, .ref aTK, .ref aTR, .ref aDY, .ref aCP, .ref aDB, .ref aCR, .ref aRK, .ref aLF, .int (nI np)], ar cI aDB 40 fDB, ar cI aCR 40 fCR] H := hP
            have hD : va_D A [ar cI aFA 10 (upd FA1 mm (FA1 mm)), ob aC 1 [.ref aPD, .ref aOR, .ref aHS, .ref aUN, .ref aFA, .ref aLO, .ref aLA, .int (nI nm), .int c1, .int cr], ar cI aPD 40 gPD_36, ar cI aOR 40 fOR, ar cI aHS 10 gHS_36, ar cI aUN 10 gUN_36, ar cI aLO 10 gLO_36, ar cI aLA 10 gLA_36, ob aP 3 [.ref aTD, .ref aTC, .ref aTK, .ref aTR, .ref aDY, .ref aCP, .ref aDB, .ref aCR, .ref aRK, .ref aLF, .int (nI np)], ar cI aDB 40 fDB, ar cI aCR 40 fCR] := hD
            refine lv_iconst (v := 1) hx hb dX1_goRound_67 (by decide) ?_
            refine lv_istore_n (lv' := [(3, .int 1), (0, .ref aC), (1, .ref aP), (2, .int (nI rr)), (4, .int (nI mm))]) hx hb dX1_goRound_68 rfl hl (by decide) rfl (fun ls hl => ?_)
            refine lv_iinc (v := (nI (mm + 1))) (lv' := [(4, .int (nI (mm + 1))), (3, .int 1), (0, .ref aC), (1, .ref aP), (2, .int (nI rr))]) hx hb dX1_goRound_69 hl (k := 4) rfl (nI_inc mm 1 (by decide)) (by decide) rfl (fun ls hl => ?_)
            refine lv_goto (tgt := 5) hx hb dX1_goRound_72 (by decide) ?_
            exact ih_5 (mm + 1) 1 gPD_36 gHS_36 gUN_36 (upd FA1 mm (FA1 mm)) gLO_36 gLA_36 (by omega) (by first | exact GR_skip HC I (by omega) (fun q => absurd c_21 (by rw [i32_le, ti0]; rw [i32_lt, ti0] at q; omega)) | exact GR_pay HC hT I (by omega) c21 p1 p2 p3 p4 p5 p6 p7 (by rw [if_pos c_52]) | exact GR_pay HC hT I (by omega) c21 p1 p2 p3 p4 p5 p6 p7 (by rw [if_neg c_52])) _ _ (hP.sub [1, 2, 3, 4, 5, 0, 6, 7, 8, 9, 10] rfl) (hD.sub [1, 2, 3, 4, 5, 0, 6, 7, 8, 9, 10] (by decide) rfl) hS ls (lv_sub hl [2, 3, 4, 1, 0] rfl)
          · skip
            refine lv_iload_n hx hb dX1_goRound_55 rfl (lv_at hl 2 rfl) ?_
            refine lv_goto (tgt := 66) hx hb dX1_goRound_56 (by decide) ?_
            refine m_iast (k := mm) (x := (nI rr)) hx hb hK hP hD hS 0 0 rfl rfl (by omega) (by decide) dX1_goRound_66 (fun H locs hP hD hS => ?_)
            have hP : va_P D vwCl [ar cI aFA 10 (upd FA1 mm (nI rr)), ob aC 1 [.ref aPD, .ref aOR, .ref aHS, .ref aUN, .ref aFA, .ref aLO, .ref aLA, .int (nI nm), .int c1, .int cr], ar cI aPD 40 gPD_36, ar cI aOR 40 fOR, ar cI aHS 10 gHS_36, ar cI aUN 10 gUN_36, ar cI aLO 10 gLO_36, ar cI aLA 10 gLA_36, ob aP 3 [.ref aTD, .ref aTC, .ref aTK, .ref aTR, .ref aDY, .ref aCP, .ref aDB, .ref aCR, .ref aRK, .ref aLF, .int (nI np)], ar cI aDB 40 fDB, ar cI aCR 40 fCR] H := hP
            have hD : va_D A [ar cI aFA 10 (upd FA1 mm (nI rr)), ob aC 1 [.ref aPD, .ref aOR, .ref aHS, .ref aUN, .ref aFA, .ref aLO, .ref aLA, .int (nI nm), .int c1, .int cr], ar cI aPD 40 gPD_36, ar cI aOR 40 fOR, ar cI aHS 10 gHS_36, ar cI aUN 10 gUN_36, ar cI aLO 10 gLO_36, ar cI aLA 10 gLA_36, ob aP 3 [.ref aTD, .ref aTC, .ref aTK, .ref aTR, .ref aDY, .ref aCP, .ref aDB, .ref aCR, .ref aRK, .ref aLF, .int (nI np)], ar cI aDB 40 fDB, ar cI aCR 40 fCR] := hD
            refine lv_iconst (v := 1) hx hb dX1_goRound_67 (by decide) ?_
            refine lv_istore_n (lv' := [(3, .int 1), (0, .ref aC), (1, .ref aP), (2, .int (nI rr)), (4, .int (nI mm))]) hx hb dX1_goRound_68 rfl hl (by decide) rfl (fun ls hl => ?_)
            refine lv_iinc (v := (nI (mm + 1))) (lv' := [(4, .int (nI (mm + 1))), (3, .int 1), (0, .ref aC), (1, .ref aP), (2, .int (nI rr))]) hx hb dX1_goRound_69 hl (k := 4) rfl (nI_inc mm 1 (by decide)) (by decide) rfl (fun ls hl => ?_)
            refine lv_goto (tgt := 5) hx hb dX1_goRound_72 (by decide) ?_
            exact ih_5 (mm + 1) 1 gPD_36 gHS_36 gUN_36 (upd FA1 mm (nI rr)) gLO_36 gLA_36 (by omega) (by first | exact GR_skip HC I (by omega) (fun q => absurd c_21 (by rw [i32_le, ti0]; rw [i32_lt, ti0] at q; omega)) | exact GR_pay HC hT I (by omega) c21 p1 p2 p3 p4 p5 p6 p7 (by rw [if_pos c_52]) | exact GR_pay HC hT I (by omega) c21 p1 p2 p3 p4 p5 p6 p7 (by rw [if_neg c_52])) _ _ (hP.sub [1, 2, 3, 4, 5, 0, 6, 7, 8, 9, 10] rfl) (hD.sub [1, 2, 3, 4, 5, 0, 6, 7, 8, 9, 10] (by decide) rfl) hS ls (lv_sub hl [2, 3, 4, 1, 0] rfl)
  exact L_5 ((nm - 0) + 1) 0 0 fPD fHS fUN fFA fLO fLA (Nat.lt_succ_self _) (GR_entry HC HS0) _ _ (hP) (hD) hS ls (lv_sub hl [2, 3, 4, 1, 0] rfl)
