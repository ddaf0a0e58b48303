abbrev r_c_X8_clear : Room := { frames := 3, cells := 0, slots := 0, locals := 67 }
set_option maxHeartbeats 4000000 in
set_option maxRecDepth 100000 in
theorem c_X8_clear (l : Launch) (D : va_G) (cI cZ : ClassId) (aM : Nat) (mA : Nat → Nat) (nt : Nat) (th : Int32) (td : Int32) (nm : Nat) (np : Nat) (isd : Int32) (ln : Int32) (rf : Int32) (rp : Int32) (sz : Int32) (nx : Int32) (kd : Int32) (wh : Int32) (pl : Int32) (rd : Int32) (rn : Int32) (ic : Int32) (mcm : Int32) (mcp : Int32) (mcr : Int32) (fRU : Nat → Int32) (fDY : Nat → Int32) (fLF : Nat → Int32) (fRK : Nat → Int32) (fOW : Nat → Int32) (fRS : Nat → Int32) (fPD : Nat → Int32) (fWS : Nat → Int32) (fFA : Nat → Int32) (fPU : Nat → Int32) (fCR : Nat → Int32) (fDB : Nat → Int32) (fcP : Nat → Int32) (fcH : Nat → Int32) (fcF : Nat → Int32) (fcO : Nat → Int32) (x : Int32) (HP : papOk np nm fDB fCR fRK fLF fPU) (HDm : ¬ isd = 0 → (∀ k, k < np → 0 ≤ ((fun j => mLeft fRU (fLF j) (fRK j) (fDY j)) k).toInt ∧ ((fun j => mLeft fRU (fLF j) (fRK j) (fDY j)) k).toInt ≤ 999) ∧ rkOk (fun j => mRank fRU (fRK j) (fDY j)) np) : MI l yX8_clear wsX8_clear r_c_X8_clear D cI cZ [.ref aM, .int x] [mo aM mA (nI nt) th td (nI nm) (nI np) isd ln rf rp sz nx kd wh pl rd rn ic mcm mcp mcr, ar cI (mA 19) 20 fRU, ar cI (mA 15) 40 fDY, ar cI (mA 14) 40 fLF, ar cI (mA 13) 40 fRK, ar cI (mA 30) 40 fOW, ar cI (mA 31) 40 fRS, ar cI (mA 32) 40 fPD, ar cI (mA 33) 40 fWS, ar cI (mA 34) 10 fFA, ar cI (mA 5) 10 fPU, ar cI (mA 8) 40 fCR, ar cI (mA 7) 40 fDB, ar cI (mA 40) 40 fcP, ar cI (mA 41) 10 fcH, ar cI (mA 42) 10 fcF, ar cI (mA 43) 10 fcO] (fun (r : Int32) (u : (Nat → Int32) × (Nat → Int32) × (Nat → Int32) × (Nat → Int32) × (Nat → Int32) × (Nat → Int32) × (Nat → Int32) × (Nat → Int32) × (Nat → Int32) × Nat) => r = cntF u.2.2.2.2.2.2.2.1 nm ∧ ClearRes np nm fDB fCR fPU (if ¬ x = 0 ∧ ¬ isd = 0 then (fun j => mLeft fRU (fLF j) (fRK j) (fDY j)) else fLF) (if ¬ x = 0 ∧ ¬ isd = 0 then (fun j => mRank fRU (fRK j) (fDY j)) else fRK) u.2.2.2.2.2.1 u.2.2.2.2.2.2.1 u.2.2.2.2.2.2.2.2.1 u.2.2.2.2.2.2.2.1 u.2.2.2.2.2.2.2.2.2) (fun (u : (Nat → Int32) × (Nat → Int32) × (Nat → Int32) × (Nat → Int32) × (Nat → Int32) × (Nat → Int32) × (Nat → Int32) × (Nat → Int32) × (Nat → Int32) × Nat) => [mo aM mA (nI nt) 0 td (nI nm) (nI np) isd ln rf rp sz nx kd wh pl rd (nI u.2.2.2.2.2.2.2.2.2) 1 (nI nm) (nI np) (nI u.2.2.2.2.2.2.2.2.2), ar cI (mA 19) 20 fRU, ar cI (mA 15) 40 fDY, ar cI (mA 14) 40 fLF, ar cI (mA 13) 40 fRK, ar cI (mA 30) 40 u.1, ar cI (mA 31) 40 u.2.1, ar cI (mA 32) 40 u.2.2.1, ar cI (mA 33) 40 u.2.2.2.1, ar cI (mA 34) 10 u.2.2.2.2.1, ar cI (mA 5) 10 fPU, ar cI (mA 8) 40 fCR, ar cI (mA 7) 40 fDB, ar cI (mA 40) 40 u.2.2.2.2.2.1, ar cI (mA 41) 10 u.2.2.2.2.2.2.1, ar cI (mA 42) 10 u.2.2.2.2.2.2.2.1, ar cI (mA 43) 10 u.2.2.2.2.2.2.2.2.1]) 0 0 := by
  refine MI.of (cc := cX8_clear) (maxL := 4) (by decide) rfl (Nat.le_of_ble_eq_true rfl) ?_
  intro p e s m below meth c A Q hx hb hml hown hts hN hK hA ret hP hD hS ls hl
  have hown : s.vm.findClass RX8 = some m.cls := hown
  have inX8 : ∀ w ∈ wsX80, w ∈ wsX8_clear := by decide +kernel
  have fl13 := hts (.fieldLink RX8 13 "AdvanceBookModel" "purse" "[I") (by decide +kernel)
  have fl16 := hts (.fieldLink RX8 16 "AdvanceBookModel" "debtor" "[I") (by decide +kernel)
  have fl19 := hts (.fieldLink RX8 19 "AdvanceBookModel" "creditor" "[I") (by decide +kernel)
  have fl60 := hts (.fieldLink RX8 60 "AdvanceBookModel" "owed" "[I") (by decide +kernel)
  have fl66 := hts (.fieldLink RX8 66 "AdvanceBookModel" "paid" "[I") (by decide +kernel)
  have fl72 := hts (.fieldLink RX8 72 "AdvanceBookModel" "failed" "[I") (by decide +kernel)
  have fl75 := hts (.fieldLink RX8 75 "AdvanceBookModel" "cPaid" "[I") (by decide +kernel)
  have fl78 := hts (.fieldLink RX8 78 "AdvanceBookModel" "cHas" "[I") (by decide +kernel)
  have fl81 := hts (.fieldLink RX8 81 "AdvanceBookModel" "cFailed" "[I") (by decide +kernel)
  have fl84 := hts (.fieldLink RX8 84 "AdvanceBookModel" "cOwes" "[I") (by decide +kernel)
  have fl87 := hts (.fieldLink RX8 87 "AdvanceBookModel" "thrown" "I") (by decide +kernel)
  have fl94 := hts (.fieldLink RX8 94 "AdvanceBookModel" "men" "I") (by decide +kernel)
  have fl101 := hts (.fieldLink RX8 101 "AdvanceBookModel" "papers" "I") (by decide +kernel)
  have fl160 := hts (.fieldLink RX8 160 "AdvanceBookModel" "isDecree" "Z") (by decide +kernel)
  have fl176 := hts (.fieldLink RX8 176 "AdvanceBookModel" "rounds" "I") (by decide +kernel)
  have fl186 := hts (.fieldLink RX8 186 "AdvanceBookModel" "isCleared" "Z") (by decide +kernel)
  have fl189 := hts (.fieldLink RX8 189 "AdvanceBookModel" "cMen" "I") (by decide +kernel)
  have fl192 := hts (.fieldLink RX8 192 "AdvanceBookModel" "cPapers" "I") (by decide +kernel)
  have fl195 := hts (.fieldLink RX8 195 "AdvanceBookModel" "cRounds" "I") (by decide +kernel)
  have hP : va_P D vwCl [mo aM mA (nI nt) th td (nI nm) (nI np) isd ln rf rp sz nx kd wh pl rd rn ic mcm mcp mcr, ar cI (mA 19) 20 fRU, ar cI (mA 15) 40 fDY, ar cI (mA 14) 40 fLF, ar cI (mA 13) 40 fRK, ar cI (mA 30) 40 fOW, ar cI (mA 31) 40 fRS, ar cI (mA 32) 40 fPD, ar cI (mA 33) 40 fWS, ar cI (mA 34) 10 fFA, ar cI (mA 5) 10 fPU, ar cI (mA 8) 40 fCR, ar cI (mA 7) 40 fDB, ar cI (mA 40) 40 fcP, ar cI (mA 41) 10 fcH, ar cI (mA 42) 10 fcF, ar cI (mA 43) 10 fcO] s.heap := hP
  have hD : va_D A [mo aM mA (nI nt) th td (nI nm) (nI np) isd ln rf rp sz nx kd wh pl rd rn ic mcm mcp mcr, ar cI (mA 19) 20 fRU, ar cI (mA 15) 40 fDY, ar cI (mA 14) 40 fLF, ar cI (mA 13) 40 fRK, ar cI (mA 30) 40 fOW, ar cI (mA 31) 40 fRS, ar cI (mA 32) 40 fPD, ar cI (mA 33) 40 fWS, ar cI (mA 34) 10 fFA, ar cI (mA 5) 10 fPU, ar cI (mA 8) 40 fCR, ar cI (mA 7) 40 fDB, ar cI (mA 40) 40 fcP, ar cI (mA 41) 10 fcH, ar cI (mA 42) 10 fcF, ar cI (mA 43) 10 fcO] := hD
  have hl : lv_has ls 4 [(0, .ref aM), (1, .int x)] := hl
  have hnp := HP.1
  have hnm := HP.2.1
  have hdb := HP.2.2.1
  have hcr := HP.2.2.2.1
  refine lv_aload_n hx hb dX8_clear_0 rfl (lv_at hl 0 rfl) ?_
  refine lv_iconst (v := 0) hx hb dX8_clear_1 (by decide) ?_
  refine va_put (D := D) (ci := 8) (v := .int 0) (ty := .int) (C := RX8) (T := TX8) (N := 44) hx hb hts inX8 tyX8 tyX8_ok nmX8 hown hK hP hD hS 0 rfl rfl 2 (by decide) fl87 (fun _ h9 => h9) rfl (by decide +kernel) (rfl) (rfl) (Nat.le_of_ble_eq_true rfl) dX8_clear_2 (fun H locs hP hD hS => ?_)
  have hP : va_P D vwCl [mo aM mA (nI nt) 0 td (nI nm) (nI np) isd ln rf rp sz nx kd wh pl rd rn ic mcm mcp mcr, ar cI (mA 19) 20 fRU, ar cI (mA 15) 40 fDY, ar cI (mA 14) 40 fLF, ar cI (mA 13) 40 fRK, ar cI (mA 30) 40 fOW, ar cI (mA 31) 40 fRS, ar cI (mA 32) 40 fPD, ar cI (mA 33) 40 fWS, ar cI (mA 34) 10 fFA, ar cI (mA 5) 10 fPU, ar cI (mA 8) 40 fCR, ar cI (mA 7) 40 fDB, ar cI (mA 40) 40 fcP, ar cI (mA 41) 10 fcH, ar cI (mA 42) 10 fcF, ar cI (mA 43) 10 fcO] H := hP
  have hD : va_D A [mo aM mA (nI nt) 0 td (nI nm) (nI np) isd ln rf rp sz nx kd wh pl rd rn ic mcm mcp mcr, ar cI (mA 19) 20 fRU, ar cI (mA 15) 40 fDY, ar cI (mA 14) 40 fLF, ar cI (mA 13) 40 fRK, ar cI (mA 30) 40 fOW, ar cI (mA 31) 40 fRS, ar cI (mA 32) 40 fPD, ar cI (mA 33) 40 fWS, ar cI (mA 34) 10 fFA, ar cI (mA 5) 10 fPU, ar cI (mA 8) 40 fCR, ar cI (mA 7) 40 fDB, ar cI (mA 40) 40 fcP, ar cI (mA 41) 10 fcH, ar cI (mA 42) 10 fcF, ar cI (mA 43) 10 fcO] := hD
  refine lv_aload_n hx hb dX8_clear_5 rfl (lv_at hl 0 rfl) ?_
  refine lv_iload_n hx hb dX8_clear_6 rfl (lv_at hl 1 rfl) ?_
  refine lv_if_eq (tgt := 21) hx hb dX8_clear_7 (by decide) (fun c_7 => ?_) (fun c_7 => ?_)
  · skip
    refine lv_iconst (v := 0) hx hb dX8_clear_21 (by decide) ?_
    refine m_cVv (As := [.int 0]) (rest := []) (wr := [ar cI (mA 40) 40 fcP, ar cI (mA 41) 10 fcH, ar cI (mA 42) 10 fcF, ar cI (mA 43) 10 fcO]) ⟨hx, hb, hml, hown, hts⟩ (c_X8_works l D cI cZ aM mA nt 0 td nm np isd ln rf rp sz nx kd wh pl rd rn ic mcm mcp mcr fRU fDY fLF fRK fOW fRS fPD fWS fFA fPU fCR fDB 0 (by first | assumption | omega) (fun k hk => (by rw [if_pos rfl]; exact HP.2.2.2.2.2.1 k hk)) (by rw [if_pos rfl]; exact plain_ok HP)) (cwV 1 hts gX8_clear_X8_works rfl rfl rfl (by decide +kernel) ⟨Nat.le_of_ble_eq_true rfl, Nat.le_of_ble_eq_true rfl⟩) hN hK hP hD hS hA [0, 1, 2, 3, 4, 5, 6, 7, 8, 9, 10, 11, 12] [13, 14, 15, 16] rfl rfl (by decide) (by decide) (by decide) 0 (ci := 8) rfl rfl rfl rfl hl.1 rfl (Nat.le_of_ble_eq_true rfl) dX8_clear_22 ⟨Nat.le_of_ble_eq_true rfl, Nat.le_of_ble_eq_true rfl⟩ (fun u_22 H locs hq_22 hP hD hS => ?_)
    obtain ⟨gOW_22, gRS_22, gPD_22, gWS_22, gFA_22, R_22⟩ := u_22
    replace hq_22 : gOW_22 = fil (if 0 = 0 then fLF else fun j => mLeft fRU (fLF j) (fRK j) (fDY j)) fOW np ∧ gRS_22 = fil (if 0 = 0 then fRK else fun j => mRank fRU (fRK j) (fDY j)) fRS np ∧ isR nm (TRF fDB fCR (owG gOW_22 np) (odF gRS_22 np) np (fun m => (fPU m).toInt)) R_22 ∧ R_22 ≤ 39960 ∧ MSt np nm fDB (odF gRS_22 np) (owG gOW_22 np) ((TRF fDB fCR (owG gOW_22 np) (odF gRS_22 np) np (fun m => (fPU m).toInt)) R_22) (fun m => failR (TRF fDB fCR (owG gOW_22 np) (odF gRS_22 np) np (fun m => (fPU m).toInt)) m R_22) gPD_22 gFA_22 := hq_22
    have hP : va_P D vwCl [ar cI (mA 40) 40 fcP, ar cI (mA 41) 10 fcH, ar cI (mA 42) 10 fcF, ar cI (mA 43) 10 fcO, mo aM mA (nI nt) 0 td (nI nm) (nI np) isd ln rf rp sz nx kd wh pl rd (nI R_22) ic mcm mcp mcr, ar cI (mA 19) 20 fRU, ar cI (mA 15) 40 fDY, ar cI (mA 14) 40 fLF, ar cI (mA 13) 40 fRK, ar cI (mA 30) 40 gOW_22, ar cI (mA 31) 40 gRS_22, ar cI (mA 32) 40 gPD_22, ar cI (mA 33) 40 gWS_22, ar cI (mA 34) 10 gFA_22, ar cI (mA 5) 10 fPU, ar cI (mA 8) 40 fCR, ar cI (mA 7) 40 fDB] H := hP
    have hD : va_D A [ar cI (mA 40) 40 fcP, ar cI (mA 41) 10 fcH, ar cI (mA 42) 10 fcF, ar cI (mA 43) 10 fcO, mo aM mA (nI nt) 0 td (nI nm) (nI np) isd ln rf rp sz nx kd wh pl rd (nI R_22) ic mcm mcp mcr, ar cI (mA 19) 20 fRU, ar cI (mA 15) 40 fDY, ar cI (mA 14) 40 fLF, ar cI (mA 13) 40 fRK, ar cI (mA 30) 40 gOW_22, ar cI (mA 31) 40 gRS_22, ar cI (mA 32) 40 gPD_22, ar cI (mA 33) 40 gWS_22, ar cI (mA 34) 10 gFA_22, ar cI (mA 5) 10 fPU, ar cI (mA 8) 40 fCR, ar cI (mA 7) 40 fDB] := hD
    obtain ⟨w1, w2, w3, w4, w5⟩ := hq_22
    rw [if_pos rfl] at w1 w2
    have hOW : ∀ j, j < np → gOW_22 j = fLF j := (fun j hj => by rw [w1]; simp only [fil, if_pos hj])
    have hRS : ∀ j, j < np → gRS_22 j = fRK j := (fun j hj => by rw [w2]; simp only [fil, if_pos hj])
    have hro1 : rkOk gRS_22 np := (fun j hj => by rw [hRS j hj]; exact (plain_ok HP) j hj)
    have how1 : ∀ j, j < np → 0 ≤ (gOW_22 j).toInt ∧ (gOW_22 j).toInt ≤ 999 := (fun j hj => by rw [hOW j hj]; exact (HP.2.2.2.2.2.1) j hj)
    have HC := clcM_ok HP hro1 how1
    have hpd := MSt_pd HC hro1 w5
    have hcond : ¬ (¬ x = 0 ∧ ¬ isd = 0) := (by first | exact fun q => q.1 c_7 | exact fun q => q.2 c_14)
    refine lv_aload_n hx hb dX8_clear_25 rfl (lv_at hl 0 rfl) ?_
    refine lv_iconst (v := 1) hx hb dX8_clear_26 (by decide) ?_
    refine va_put (D := D) (ci := 8) (v := .int 1) (ty := .boolean) (C := RX8) (T := TX8) (N := 44) hx hb hts inX8 tyX8 tyX8_ok nmX8 hown hK hP hD hS 4 rfl rfl 36 (by decide) fl186 (fun _ h9 => h9) rfl (by decide +kernel) (rfl) (rfl) (Nat.le_of_ble_eq_true rfl) dX8_clear_27 (fun H locs hP hD hS => ?_)
    have hP : va_P D vwCl [ar cI (mA 40) 40 fcP, ar cI (mA 41) 10 fcH, ar cI (mA 42) 10 fcF, ar cI (mA 43) 10 fcO, mo aM mA (nI nt) 0 td (nI nm) (nI np) isd ln rf rp sz nx kd wh pl rd (nI R_22) 1 mcm mcp mcr, ar cI (mA 19) 20 fRU, ar cI (mA 15) 40 fDY, ar cI (mA 14) 40 fLF, ar cI (mA 13) 40 fRK, ar cI (mA 30) 40 gOW_22, ar cI (mA 31) 40 gRS_22, ar cI (mA 32) 40 gPD_22, ar cI (mA 33) 40 gWS_22, ar cI (mA 34) 10 gFA_22, ar cI (mA 5) 10 fPU, ar cI (mA 8) 40 fCR, ar cI (mA 7) 40 fDB] H := hP
    have hD : va_D A [ar cI (mA 40) 40 fcP, ar cI (mA 41) 10 fcH, ar cI (mA 42) 10 fcF, ar cI (mA 43) 10 fcO, mo aM mA (nI nt) 0 td (nI nm) (nI np) isd ln rf rp sz nx kd wh pl rd (nI R_22) 1 mcm mcp mcr, ar cI (mA 19) 20 fRU, ar cI (mA 15) 40 fDY, ar cI (mA 14) 40 fLF, ar cI (mA 13) 40 fRK, ar cI (mA 30) 40 gOW_22, ar cI (mA 31) 40 gRS_22, ar cI (mA 32) 40 gPD_22, ar cI (mA 33) 40 gWS_22, ar cI (mA 34) 10 gFA_22, ar cI (mA 5) 10 fPU, ar cI (mA 8) 40 fCR, ar cI (mA 7) 40 fDB] := hD
    refine lv_aload_n hx hb dX8_clear_30 rfl (lv_at hl 0 rfl) ?_
    refine lv_aload_n hx hb dX8_clear_31 rfl (lv_at hl 0 rfl) ?_
    refine va_get (D := D) (ci := 8) (v := .int (nI nm)) (C := RX8) (T := TX8) (N := 44) hx hb hts inX8 hown hK hP 4 rfl rfl 4 (by decide) fl94 (fun _ h9 => h9) rfl dX8_clear_32 ?_
    refine va_put (D := D) (ci := 8) (v := .int (nI nm)) (ty := .int) (C := RX8) (T := TX8) (N := 44) hx hb hts inX8 tyX8 tyX8_ok nmX8 hown hK hP hD hS 4 rfl rfl 37 (by decide) fl189 (fun _ h9 => h9) rfl (by decide +kernel) (rfl) (rfl) (Nat.le_of_ble_eq_true rfl) dX8_clear_35 (fun H locs hP hD hS => ?_)
    have hP : va_P D vwCl [ar cI (mA 40) 40 fcP, ar cI (mA 41) 10 fcH, ar cI (mA 42) 10 fcF, ar cI (mA 43) 10 fcO, mo aM mA (nI nt) 0 td (nI nm) (nI np) isd ln rf rp sz nx kd wh pl rd (nI R_22) 1 (nI nm) mcp mcr, ar cI (mA 19) 20 fRU, ar cI (mA 15) 40 fDY, ar cI (mA 14) 40 fLF, ar cI (mA 13) 40 fRK, ar cI (mA 30) 40 gOW_22, ar cI (mA 31) 40 gRS_22, ar cI (mA 32) 40 gPD_22, ar cI (mA 33) 40 gWS_22, ar cI (mA 34) 10 gFA_22, ar cI (mA 5) 10 fPU, ar cI (mA 8) 40 fCR, ar cI (mA 7) 40 fDB] H := hP
    have hD : va_D A [ar cI (mA 40) 40 fcP, ar cI (mA 41) 10 fcH, ar cI (mA 42) 10 fcF, ar cI (mA 43) 10 fcO, mo aM mA (nI nt) 0 td (nI nm) (nI np) isd ln rf rp sz nx kd wh pl rd (nI R_22) 1 (nI nm) mcp mcr, ar cI (mA 19) 20 fRU, ar cI (mA 15) 40 fDY, ar cI (mA 14) 40 fLF, ar cI (mA 13) 40 fRK, ar cI (mA 30) 40 gOW_22, ar cI (mA 31) 40 gRS_22, ar cI (mA 32) 40 gPD_22, ar cI (mA 33) 40 gWS_22, ar cI (mA 34) 10 gFA_22, ar cI (mA 5) 10 fPU, ar cI (mA 8) 40 fCR, ar cI (mA 7) 40 fDB] := hD
    refine lv_aload_n hx hb dX8_clear_38 rfl (lv_at hl 0 rfl) ?_
    refine lv_aload_n hx hb dX8_clear_39 rfl (lv_at hl 0 rfl) ?_
    refine va_get (D := D) (ci := 8) (v := .int (nI np)) (C := RX8) (T := TX8) (N := 44) hx hb hts inX8 hown hK hP 4 rfl rfl 6 (by decide) fl101 (fun _ h9 => h9) rfl dX8_clear_40 ?_
    refine va_put (D := D) (ci := 8) (v := .int (nI np)) (ty := .int) (C := RX8) (T := TX8) (N := 44) hx hb hts inX8 tyX8 tyX8_ok nmX8 hown hK hP hD hS 4 rfl rfl 38 (by decide) fl192 (fun _ h9 => h9) rfl (by decide +kernel) (rfl) (rfl) (Nat.le_of_ble_eq_true rfl) dX8_clear_43 (fun H locs hP hD hS => ?_)
    have hP : va_P D vwCl [ar cI (mA 40) 40 fcP, ar cI (mA 41) 10 fcH, ar cI (mA 42) 10 fcF, ar cI (mA 43) 10 fcO, mo aM mA (nI nt) 0 td (nI nm) (nI np) isd ln rf rp sz nx kd wh pl rd (nI R_22) 1 (nI nm) (nI np) mcr, ar cI (mA 19) 20 fRU, ar cI (mA 15) 40 fDY, ar cI (mA 14) 40 fLF, ar cI (mA 13) 40 fRK, ar cI (mA 30) 40 gOW_22, ar cI (mA 31) 40 gRS_22, ar cI (mA 32) 40 gPD_22, ar cI (mA 33) 40 gWS_22, ar cI (mA 34) 10 gFA_22, ar cI (mA 5) 10 fPU, ar cI (mA 8) 40 fCR, ar cI (mA 7) 40 fDB] H := hP
    have hD : va_D A [ar cI (mA 40) 40 fcP, ar cI (mA 41) 10 fcH, ar cI (mA 42) 10 fcF, ar cI (mA 43) 10 fcO, mo aM mA (nI nt) 0 td (nI nm) (nI np) isd ln rf rp sz nx kd wh pl rd (nI R_22) 1 (nI nm) (nI np) mcr, ar cI (mA 19) 20 fRU, ar cI (mA 15) 40 fDY, ar cI (mA 14) 40 fLF, ar cI (mA 13) 40 fRK, ar cI (mA 30) 40 gOW_22, ar cI (mA 31) 40 gRS_22, ar cI (mA 32) 40 gPD_22, ar cI (mA 33) 40 gWS_22, ar cI (mA 34) 10 gFA_22, ar cI (mA 5) 10 fPU, ar cI (mA 8) 40 fCR, ar cI (mA 7) 40 fDB] := hD
    refine lv_aload_n hx hb dX8_clear_46 rfl (lv_at hl 0 rfl) ?_
    refine lv_aload_n hx hb dX8_clear_47 rfl (lv_at hl 0 rfl) ?_
    refine va_get (D := D) (ci := 8) (v := .int (nI R_22)) (C := RX8) (T := TX8) (N := 44) hx hb hts inX8 hown hK hP 4 rfl rfl 35 (by decide) fl176 (fun _ h9 => h9) rfl dX8_clear_48 ?_
    refine va_put (D := D) (ci := 8) (v := .int (nI R_22)) (ty := .int) (C := RX8) (T := TX8) (N := 44) hx hb hts inX8 tyX8 tyX8_ok nmX8 hown hK hP hD hS 4 rfl rfl 39 (by decide) fl195 (fun _ h9 => h9) rfl (by decide +kernel) (rfl) (rfl) (Nat.le_of_ble_eq_true rfl) dX8_clear_51 (fun H locs hP hD hS => ?_)
    have hP : va_P D vwCl [ar cI (mA 40) 40 fcP, ar cI (mA 41) 10 fcH, ar cI (mA 42) 10 fcF, ar cI (mA 43) 10 fcO, mo aM mA (nI nt) 0 td (nI nm) (nI np) isd ln rf rp sz nx kd wh pl rd (nI R_22) 1 (nI nm) (nI np) (nI R_22), ar cI (mA 19) 20 fRU, ar cI (mA 15) 40 fDY, ar cI (mA 14) 40 fLF, ar cI (mA 13) 40 fRK, ar cI (mA 30) 40 gOW_22, ar cI (mA 31) 40 gRS_22, ar cI (mA 32) 40 gPD_22, ar cI (mA 33) 40 gWS_22, ar cI (mA 34) 10 gFA_22, ar cI (mA 5) 10 fPU, ar cI (mA 8) 40 fCR, ar cI (mA 7) 40 fDB] H := hP
    have hD : va_D A [ar cI (mA 40) 40 fcP, ar cI (mA 41) 10 fcH, ar cI (mA 42) 10 fcF, ar cI (mA 43) 10 fcO, mo aM mA (nI nt) 0 td (nI nm) (nI np) isd ln rf rp sz nx kd wh pl rd (nI R_22) 1 (nI nm) (nI np) (nI R_22), ar cI (mA 19) 20 fRU, ar cI (mA 15) 40 fDY, ar cI (mA 14) 40 fLF, ar cI (mA 13) 40 fRK, ar cI (mA 30) 40 gOW_22, ar cI (mA 31) 40 gRS_22, ar cI (mA 32) 40 gPD_22, ar cI (mA 33) 40 gWS_22, ar cI (mA 34) 10 gFA_22, ar cI (mA 5) 10 fPU, ar cI (mA 8) 40 fCR, ar cI (mA 7) 40 fDB] := hD
    refine lv_iconst (v := 0) hx hb dX8_clear_54 (by decide) ?_
    refine lv_istore_n (lv' := [(2, .int 0), (0, .ref aM), (1, .int x)]) hx hb dX8_clear_55 rfl hl (by decide) rfl (fun ls hl => ?_)
    refine lv_iconst (v := 0) hx hb dX8_clear_56 (by decide) ?_
    refine lv_istore_n (lv' := [(3, .int 0), (2, .int 0), (0, .ref aM), (1, .int x)]) hx hb dX8_clear_57 rfl hl (by decide) rfl (fun ls hl => ?_)
    have L_58 : ∀ (n_58 : Nat) (j : Nat) (n : Int32) (cH1 : Nat → Int32) (cO1 : Nat → Int32) (cF1 : Nat → Int32), (nm - j < n_58) → (j ≤ nm) → (n = cntF gFA_22 j) → (cH1 = fil fPU fcH j) → (cO1 = fil (fun _ => 0) fcO j) → (cF1 = fil gFA_22 fcF j) → ∀ (H : Heap) (locs : List Loc), va_P D vwCl [ar cI (mA 40) 40 fcP, ar cI (mA 41) 10 cH1, ar cI (mA 42) 10 cF1, ar cI (mA 43) 10 cO1, mo aM mA (nI nt) 0 td (nI nm) (nI np) isd ln rf rp sz nx kd wh pl rd (nI R_22) 1 (nI nm) (nI np) (nI R_22), ar cI (mA 19) 20 fRU, ar cI (mA 15) 40 fDY, ar cI (mA 14) 40 fLF, ar cI (mA 13) 40 fRK, ar cI (mA 30) 40 gOW_22, ar cI (mA 31) 40 gRS_22, ar cI (mA 32) 40 gPD_22, ar cI (mA 33) 40 gWS_22, ar cI (mA 34) 10 gFA_22, ar cI (mA 5) 10 fPU, ar cI (mA 8) 40 fCR, ar cI (mA 7) 40 fDB] H → va_D A [ar cI (mA 40) 40 fcP, ar cI (mA 41) 10 cH1, ar cI (mA 42) 10 cF1, ar cI (mA 43) 10 cO1, mo aM mA (nI nt) 0 td (nI nm) (nI np) isd ln rf rp sz nx kd wh pl rd (nI R_22) 1 (nI nm) (nI np) (nI R_22), ar cI (mA 19) 20 fRU, ar cI (mA 15) 40 fDY, ar cI (mA 14) 40 fLF, ar cI (mA 13) 40 fRK, ar cI (mA 30) 40 gOW_22, ar cI (mA 31) 40 gRS_22, ar cI (mA 32) 40 gPD_22, ar cI (mA 33) 40 gWS_22, ar cI (mA 34) 10 gFA_22, ar cI (mA 5) 10 fPU, ar cI (mA 8) 40 fCR, ar cI (mA 7) 40 fDB] → va_S A s.heap H locs → ∀ ls : Array Slot, lv_has ls 4 [(0, .ref aM), (1, .int x), (2, .int n), (3, .int (nI j))] → W p l e r_c_X8_clear s m (([.ref aM, .int x] : List Value).toArray) below meth c H locs 0 0 Q (F0 m 58 ls []) := by
      intro n_58
      induction n_58 with
      | zero => intro j n cH1 cO1 cF1 hfu; exact absurd hfu (Nat.not_lt_zero _)
      | succ n_58 ih_58 =>
        intro j n cH1 cO1 cF1 hfu_58 hj hn f1 f2 f3 H locs hP hD hS ls hl
        refine lv_iload_n hx hb dX8_clear_58 rfl (lv_at hl 3 rfl) ?_
        refine lv_aload_n hx hb dX8_clear_59 rfl (lv_at hl 0 rfl) ?_
        refine va_get (D := D) (ci := 8) (v := .int (nI nm)) (C := RX8) (T := TX8) (N := 44) hx hb hts inX8 hown hK hP 4 rfl rfl 4 (by decide) fl94 (fun _ h9 => h9) rfl dX8_clear_60 ?_
        refine lv_icmp_ge (tgt := 120) hx hb dX8_clear_63 (by decide) (fun c_63 => ?_) (fun c_63 => ?_)
        · skip
          have k_63 : nm ≤ j := (nI_leI (a := nm) (b := j) (by omega) (by omega)).mp c_63
          refine lv_iconst (v := 0) hx hb dX8_clear_120 (by decide) ?_
          refine lv_istore_n (lv' := [(3, .int 0), (0, .ref aM), (1, .int x), (2, .int n)]) hx hb dX8_clear_121 rfl hl (by decide) rfl (fun ls hl => ?_)
          have L_122 : ∀ (n_122 : Nat) (k : Nat) (cP2 : Nat → Int32) (cH2 : Nat → Int32) (cO2 : Nat → Int32), (np - k < n_122) → (k ≤ np) → (cP2 = fil gPD_22 fcP k) → (cH2 = hasM gPD_22 (dbN fDB) (dbN fCR) cH1 k) → (cO2 = oweM gOW_22 gPD_22 (dbN fDB) cO1 k) → ∀ (H : Heap) (locs : List Loc), va_P D vwCl [ar cI (mA 40) 40 cP2, ar cI (mA 41) 10 cH2, ar cI (mA 42) 10 cF1, ar cI (mA 43) 10 cO2, mo aM mA (nI nt) 0 td (nI nm) (nI np) isd ln rf rp sz nx kd wh pl rd (nI R_22) 1 (nI nm) (nI np) (nI R_22), ar cI (mA 19) 20 fRU, ar cI (mA 15) 40 fDY, ar cI (mA 14) 40 fLF, ar cI (mA 13) 40 fRK, ar cI (mA 30) 40 gOW_22, ar cI (mA 31) 40 gRS_22, ar cI (mA 32) 40 gPD_22, ar cI (mA 33) 40 gWS_22, ar cI (mA 34) 10 gFA_22, ar cI (mA 5) 10 fPU, ar cI (mA 8) 40 fCR, ar cI (mA 7) 40 fDB] H → va_D A [ar cI (mA 40) 40 cP2, ar cI (mA 41) 10 cH2, ar cI (mA 42) 10 cF1, ar cI (mA 43) 10 cO2, mo aM mA (nI nt) 0 td (nI nm) (nI np) isd ln rf rp sz nx kd wh pl rd (nI R_22) 1 (nI nm) (nI np) (nI R_22), ar cI (mA 19) 20 fRU, ar cI (mA 15) 40 fDY, ar cI (mA 14) 40 fLF, ar cI (mA 13) 40 fRK, ar cI (mA 30) 40 gOW_22, ar cI (mA 31) 40 gRS_22, ar cI (mA 32) 40 gPD_22, ar cI (mA 33) 40 gWS_22, ar cI (mA 34) 10 gFA_22, ar cI (mA 5) 10 fPU, ar cI (mA 8) 40 fCR, ar cI (mA 7) 40 fDB] → va_S A s.heap H locs → ∀ ls : Array Slot, lv_has ls 4 [(0, .ref aM), (1, .int x), (2, .int n), (3, .int (nI k))] → W p l e r_c_X8_clear s m (([.ref aM, .int x] : List Value).toArray) below meth c H locs 0 0 Q (F0 m 122 ls []) := by
            intro n_122
            induction n_122 with
            | zero => intro k cP2 cH2 cO2 hfu; exact absurd hfu (Nat.not_lt_zero _)
            | succ n_122 ih_122 =>
              intro k cP2 cH2 cO2 hfu_122 hk g1 g2 g3 H locs hP hD hS ls hl
              refine lv_iload_n hx hb dX8_clear_122 rfl (lv_at hl 3 rfl) ?_
              refine lv_aload_n hx hb dX8_clear_123 rfl (lv_at hl 0 rfl) ?_
              refine va_get (D := D) (ci := 8) (v := .int (nI np)) (C := RX8) (T := TX8) (N := 44) hx hb hts inX8 hown hK hP 4 rfl rfl 6 (by decide) fl101 (fun _ h9 => h9) rfl dX8_clear_124 ?_
              refine lv_icmp_ge (tgt := 215) hx hb dX8_clear_127 (by decide) (fun c_127 => ?_) (fun c_127 => ?_)
              · skip
                have k_127 : np ≤ k := (nI_leI (a := np) (b := k) (by omega) (by omega)).mp c_127
                refine lv_iload_n hx hb dX8_clear_215 rfl (lv_at hl 2 rfl) ?_
                have ej : j = nm := (by omega)
                have ek : k = np := (by omega)
                rw [ej] at hn f1 f2 f3
                rw [ek] at g1 g2 g3
                have hF : ∀ m, m < nm → cF1 m = gFA_22 m := (fun m hm => by rw [f3]; simp only [fil, if_pos hm])
                have hPP : ∀ q, q < np → cP2 q = gPD_22 q := (fun q hq => by rw [g1]; simp only [fil, if_pos hq])
                have hH : ∀ m, m < nm → (cH2 m).toInt = (fPU m).toInt + pS (fun k => (gPD_22 k).toInt) (dbN fCR) m np - pS (fun k => (gPD_22 k).toInt) (dbN fDB) m np := (fun m hm => by rw [g2, hasM_val hnp (fun q hq => ⟨(hpd q hq).1, by have := hpd q hq; omega⟩) (fun u hu => by rw [f1]; simp only [fil, if_pos hu]; exact HP.2.2.2.2.2.2 u hu) np (Nat.le_refl _) m hm, f1]; simp only [fil, if_pos hm])
                have hO : ∀ m, m < nm → (cO2 m).toInt = pS (fun k => (gOW_22 k).toInt) (dbN fDB) m np - pS (fun k => (gPD_22 k).toInt) (dbN fDB) m np := (fun m hm => by rw [g3, oweM_val hnp hpd (fun u hu => by rw [f2]; simp only [fil, if_pos hu]; exact ti0) np (Nat.le_refl _) m hm])
                have hres := clearRes_M HC hro1 w3 w4 w5 hH hO
                exact ret n (gOW_22, gRS_22, gPD_22, gWS_22, gFA_22, cP2, cH2, cF1, cO2, R_22) _ _ _ _ dX8_clear_216 (⟨by rw [hn]; exact cntF_congr (fun m hm => (hF m hm).symm), ClearRes_out hPP hF (by first | (rw [if_pos hcond, if_pos hcond]; exact ClearRes_congr hOW hRS hres) | (rw [if_neg hcond, if_neg hcond]; exact ClearRes_congr hOW hRS hres))⟩) (hP.sub [4, 5, 6, 7, 8, 9, 10, 11, 12, 13, 14, 15, 16, 0, 1, 2, 3] rfl) (hD.sub [4, 5, 6, 7, 8, 9, 10, 11, 12, 13, 14, 15, 16, 0, 1, 2, 3] (by decide) rfl) hS
              · skip
                have k_127 : ¬ np ≤ k := fun h9 => c_127 ((nI_leI (a := np) (b := k) (by omega) (by omega)).mpr h9)
                refine lv_aload_n hx hb dX8_clear_130 rfl (lv_at hl 0 rfl) ?_
                refine va_get (D := D) (ci := 8) (v := .ref (mA 40)) (C := RX8) (T := TX8) (N := 44) hx hb hts inX8 hown hK hP 4 rfl rfl 40 (by decide) fl75 (fun _ h9 => h9) rfl dX8_clear_131 ?_
                refine lv_iload_n hx hb dX8_clear_134 rfl (lv_at hl 3 rfl) ?_
                refine lv_aload_n hx hb dX8_clear_135 rfl (lv_at hl 0 rfl) ?_
                refine va_get (D := D) (ci := 8) (v := .ref (mA 32)) (C := RX8) (T := TX8) (N := 44) hx hb hts inX8 hown hK hP 4 rfl rfl 32 (by decide) fl66 (fun _ h9 => h9) rfl dX8_clear_136 ?_
                refine lv_iload_n hx hb dX8_clear_139 rfl (lv_at hl 3 rfl) ?_
                refine m_iald (k := k) hx hb hK hP 11 0 rfl rfl (by omega) (by decide) dX8_clear_140 ?_
                refine m_iast (k := k) (x := (gPD_22 k)) hx hb hK hP hD hS 0 0 rfl rfl (by omega) (by decide) dX8_clear_141 (fun H locs hP hD hS => ?_)
                have hP : va_P D vwCl [ar cI (mA 40) 40 (upd cP2 k (gPD_22 k)), ar cI (mA 41) 10 cH2, ar cI (mA 42) 10 cF1, ar cI (mA 43) 10 cO2, mo aM mA (nI nt) 0 td (nI nm) (nI np) isd ln rf rp sz nx kd wh pl rd (nI R_22) 1 (nI nm) (nI np) (nI R_22), ar cI (mA 19) 20 fRU, ar cI (mA 15) 40 fDY, ar cI (mA 14) 40 fLF, ar cI (mA 13) 40 fRK, ar cI (mA 30) 40 gOW_22, ar cI (mA 31) 40 gRS_22, ar cI (mA 32) 40 gPD_22, ar cI (mA 33) 40 gWS_22, ar cI (mA 34) 10 gFA_22, ar cI (mA 5) 10 fPU, ar cI (mA 8) 40 fCR, ar cI (mA 7) 40 fDB] H := hP
                have hD : va_D A [ar cI (mA 40) 40 (upd cP2 k (gPD_22 k)), ar cI (mA 41) 10 cH2, ar cI (mA 42) 10 cF1, ar cI (mA 43) 10 cO2, mo aM mA (nI nt) 0 td (nI nm) (nI np) isd ln rf rp sz nx kd wh pl rd (nI R_22) 1 (nI nm) (nI np) (nI R_22), ar cI (mA 19) 20 fRU, ar cI (mA 15) 40 fDY, ar cI (mA 14) 40 fLF, ar cI (mA 13) 40 fRK, ar cI (mA 30) 40 gOW_22, ar cI (mA 31) 40 gRS_22, ar cI (mA 32) 40 gPD_22, ar cI (mA 33) 40 gWS_22, ar cI (mA 34) 10 gFA_22, ar cI (mA 5) 10 fPU, ar cI (mA 8) 40 fCR, ar cI (mA 7) 40 fDB] := hD
                refine lv_aload_n hx hb dX8_clear_142 rfl (lv_at hl 0 rfl) ?_
                refine va_get (D := D) (ci := 8) (v := .ref (mA 41)) (C := RX8) (T := TX8) (N := 44) hx hb hts inX8 hown hK hP 4 rfl rfl 41 (by decide) fl78 (fun _ h9 => h9) rfl dX8_clear_143 ?_
                refine lv_aload_n hx hb dX8_clear_146 rfl (lv_at hl 0 rfl) ?_
                refine va_get (D := D) (ci := 8) (v := .ref (mA 8)) (C := RX8) (T := TX8) (N := 44) hx hb hts inX8 hown hK hP 4 rfl rfl 8 (by decide) fl19 (fun _ h9 => h9) rfl dX8_clear_147 ?_
                refine lv_iload_n hx hb dX8_clear_150 rfl (lv_at hl 3 rfl) ?_
                refine m_iald (k := k) hx hb hK hP 15 0 rfl rfl (by omega) (by decide) dX8_clear_151 ?_
                refine lv_dup2_11 hx hb dX8_clear_152 rfl rfl ?_
                refine va_iald hx hb hK hP 1 0 rfl rfl (vp_wide (hcr k (by omega)) hnm) dX8_clear_153 ?_
                refine lv_aload_n hx hb dX8_clear_154 rfl (lv_at hl 0 rfl) ?_
                refine va_get (D := D) (ci := 8) (v := .ref (mA 32)) (C := RX8) (T := TX8) (N := 44) hx hb hts inX8 hown hK hP 4 rfl rfl 32 (by decide) fl66 (fun _ h9 => h9) rfl dX8_clear_155 ?_
                refine lv_iload_n hx hb dX8_clear_158 rfl (lv_at hl 3 rfl) ?_
                refine m_iald (k := k) hx hb hK hP 11 0 rfl rfl (by omega) (by decide) dX8_clear_159 ?_
                refine lv_iadd hx hb dX8_clear_160 ?_
                refine va_iast (x := ((cH2 (ix (fCR k))) + (gPD_22 k))) hx hb hK hP hD hS 1 0 rfl rfl (vp_wide (hcr k (by omega)) hnm) dX8_clear_161 (fun H locs hP hD hS => ?_)
                have hP : va_P D vwCl [ar cI (mA 40) 40 (upd cP2 k (gPD_22 k)), ar cI (mA 41) 10 (upd cH2 (ix (fCR k)) ((cH2 (ix (fCR k))) + (gPD_22 k))), ar cI (mA 42) 10 cF1, ar cI (mA 43) 10 cO2, mo aM mA (nI nt) 0 td (nI nm) (nI np) isd ln rf rp sz nx kd wh pl rd (nI R_22) 1 (nI nm) (nI np) (nI R_22), ar cI (mA 19) 20 fRU, ar cI (mA 15) 40 fDY, ar cI (mA 14) 40 fLF, ar cI (mA 13) 40 fRK, ar cI (mA 30) 40 gOW_22, ar cI (mA 31) 40 gRS_22, ar cI (mA 32) 40 gPD_22, ar cI (mA 33) 40 gWS_22, ar cI (mA 34) 10 gFA_22, ar cI (mA 5) 10 fPU, ar cI (mA 8) 40 fCR, ar cI (mA 7) 40 fDB] H := hP
                have hD : va_D A [ar cI (mA 40) 40 (upd cP2 k (gPD_22 k)), ar cI (mA 41) 10 (upd cH2 (ix (fCR k)) ((cH2 (ix (fCR k))) + (gPD_22 k))), ar cI (mA 42) 10 cF1, ar cI (mA 43) 10 cO2, mo aM mA (nI nt) 0 td (nI nm) (nI np) isd ln rf rp sz nx kd wh pl rd (nI R_22) 1 (nI nm) (nI np) (nI R_22), ar cI (mA 19) 20 fRU, ar cI (mA 15) 40 fDY, ar cI (mA 14) 40 fLF, ar cI (mA 13) 40 fRK, ar cI (mA 30) 40 gOW_22, ar cI (mA 31) 40 gRS_22, ar cI (mA 32) 40 gPD_22, ar cI (mA 33) 40 gWS_22, ar cI (mA 34) 10 gFA_22, ar cI (mA 5) 10 fPU, ar cI (mA 8) 40 fCR, ar cI (mA 7) 40 fDB] := hD
                refine lv_aload_n hx hb dX8_clear_162 rfl (lv_at hl 0 rfl) ?_
                refine va_get (D := D) (ci := 8) (v := .ref (mA 41)) (C := RX8) (T := TX8) (N := 44) hx hb hts inX8 hown hK hP 4 rfl rfl 41 (by decide) fl78 (fun _ h9 => h9) rfl dX8_clear_163 ?_
                refine lv_aload_n hx hb dX8_clear_166 rfl (lv_at hl 0 rfl) ?_
                refine va_get (D := D) (ci := 8) (v := .ref (mA 7)) (C := RX8) (T := TX8) (N := 44) hx hb hts inX8 hown hK hP 4 rfl rfl 7 (by decide) fl16 (fun _ h9 => h9) rfl dX8_clear_167 ?_
                refine lv_iload_n hx hb dX8_clear_170 rfl (lv_at hl 3 rfl) ?_
                refine m_iald (k := k) hx hb hK hP 16 0 rfl rfl (by omega) (by decide) dX8_clear_171 ?_
                refine lv_dup2_11 hx hb dX8_clear_172 rfl rfl ?_
                refine va_iald hx hb hK hP 1 0 rfl rfl (vp_wide (hdb k (by omega)) hnm) dX8_clear_173 ?_
                refine lv_aload_n hx hb dX8_clear_174 rfl (lv_at hl 0 rfl) ?_
                refine va_get (D := D) (ci := 8) (v := .ref (mA 32)) (C := RX8) (T := TX8) (N := 44) hx hb hts inX8 hown hK hP 4 rfl rfl 32 (by decide) fl66 (fun _ h9 => h9) rfl dX8_clear_175 ?_
                refine lv_iload_n hx hb dX8_clear_178 rfl (lv_at hl 3 rfl) ?_
                refine m_iald (k := k) hx hb hK hP 11 0 rfl rfl (by omega) (by decide) dX8_clear_179 ?_
                refine lv_isub hx hb dX8_clear_180 ?_
                refine va_iast (x := (((upd cH2 (ix (fCR k)) ((cH2 (ix (fCR k))) + (gPD_22 k))) (ix (fDB k))) - (gPD_22 k))) hx hb hK hP hD hS 1 0 rfl rfl (vp_wide (hdb k (by omega)) hnm) dX8_clear_181 (fun H locs hP hD hS => ?_)
                have hP : va_P D vwCl [ar cI (mA 40) 40 (upd cP2 k (gPD_22 k)), ar cI (mA 41) 10 (upd (upd cH2 (ix (fCR k)) ((cH2 (ix (fCR k))) + (gPD_22 k))) (ix (fDB k)) (((upd cH2 (ix (fCR k)) ((cH2 (ix (fCR k))) + (gPD_22 k))) (ix (fDB k))) - (gPD_22 k))), ar cI (mA 42) 10 cF1, ar cI (mA 43) 10 cO2, mo aM mA (nI nt) 0 td (nI nm) (nI np) isd ln rf rp sz nx kd wh pl rd (nI R_22) 1 (nI nm) (nI np) (nI R_22), ar cI (mA 19) 20 fRU, ar cI (mA 15) 40 fDY, ar cI (mA 14) 40 fLF, ar cI (mA 13) 40 fRK, ar cI (mA 30) 40 gOW_22, ar cI (mA 31) 40 gRS_22, ar cI (mA 32) 40 gPD_22, ar cI (mA 33) 40 gWS_22, ar cI (mA 34) 10 gFA_22, ar cI (mA 5) 10 fPU, ar cI (mA 8) 40 fCR, ar cI (mA 7) 40 fDB] H := hP
                have hD : va_D A [ar cI (mA 40) 40 (upd cP2 k (gPD_22 k)), ar cI (mA 41) 10 (upd (upd cH2 (ix (fCR k)) ((cH2 (ix (fCR k))) + (gPD_22 k))) (ix (fDB k)) (((upd cH2 (ix (fCR k)) ((cH2 (ix (fCR k))) + (gPD_22 k))) (ix (fDB k))) - (gPD_22 k))), ar cI (mA 42) 10 cF1, ar cI (mA 43) 10 cO2, mo aM mA (nI nt) 0 td (nI nm) (nI np) isd ln rf rp sz nx kd wh pl rd (nI R_22) 1 (nI nm) (nI np) (nI R_22), ar cI (mA 19) 20 fRU, ar cI (mA 15) 40 fDY, ar cI (mA 14) 40 fLF, ar cI (mA 13) 40 fRK, ar cI (mA 30) 40 gOW_22, ar cI (mA 31) 40 gRS_22, ar cI (mA 32) 40 gPD_22, ar cI (mA 33) 40 gWS_22, ar cI (mA 34) 10 gFA_22, ar cI (mA 5) 10 fPU, ar cI (mA 8) 40 fCR, ar cI (mA 7) 40 fDB] := hD
                refine lv_aload_n hx hb dX8_clear_182 rfl (lv_at hl 0 rfl) ?_
                refine va_get (D := D) (ci := 8) (v := .ref (mA 43)) (C := RX8) (T := TX8) (N := 44) hx hb hts inX8 hown hK hP 4 rfl rfl 43 (by decide) fl84 (fun _ h9 => h9) rfl dX8_clear_183 ?_
                refine lv_aload_n hx hb dX8_clear_186 rfl (lv_at hl 0 rfl) ?_
                refine va_get (D := D) (ci := 8) (v := .ref (mA 7)) (C := RX8) (T := TX8) (N := 44) hx hb hts inX8 hown hK hP 4 rfl rfl 7 (by decide) fl16 (fun _ h9 => h9) rfl dX8_clear_187 ?_
                refine lv_iload_n hx hb dX8_clear_190 rfl (lv_at hl 3 rfl) ?_
                refine m_iald (k := k) hx hb hK hP 16 0 rfl rfl (by omega) (by decide) dX8_clear_191 ?_
                refine lv_dup2_11 hx hb dX8_clear_192 rfl rfl ?_
                refine va_iald hx hb hK hP 3 0 rfl rfl (vp_wide (hdb k (by omega)) hnm) dX8_clear_193 ?_
                refine lv_aload_n hx hb dX8_clear_194 rfl (lv_at hl 0 rfl) ?_
                refine va_get (D := D) (ci := 8) (v := .ref (mA 30)) (C := RX8) (T := TX8) (N := 44) hx hb hts inX8 hown hK hP 4 rfl rfl 30 (by decide) fl60 (fun _ h9 => h9) rfl dX8_clear_195 ?_
                refine lv_iload_n hx hb dX8_clear_198 rfl (lv_at hl 3 rfl) ?_
                refine m_iald (k := k) hx hb hK hP 9 0 rfl rfl (by omega) (by decide) dX8_clear_199 ?_
                refine lv_aload_n hx hb dX8_clear_200 rfl (lv_at hl 0 rfl) ?_
                refine va_get (D := D) (ci := 8) (v := .ref (mA 32)) (C := RX8) (T := TX8) (N := 44) hx hb hts inX8 hown hK hP 4 rfl rfl 32 (by decide) fl66 (fun _ h9 => h9) rfl dX8_clear_201 ?_
                refine lv_iload_n hx hb dX8_clear_204 rfl (lv_at hl 3 rfl) ?_
                refine m_iald (k := k) hx hb hK hP 11 0 rfl rfl (by omega) (by decide) dX8_clear_205 ?_
                refine lv_isub hx hb dX8_clear_206 ?_
                refine lv_iadd hx hb dX8_clear_207 ?_
                refine va_iast (x := ((cO2 (ix (fDB k))) + ((gOW_22 k) - (gPD_22 k)))) hx hb hK hP hD hS 3 0 rfl rfl (vp_wide (hdb k (by omega)) hnm) dX8_clear_208 (fun H locs hP hD hS => ?_)
                have hP : va_P D vwCl [ar cI (mA 40) 40 (upd cP2 k (gPD_22 k)), ar cI (mA 41) 10 (upd (upd cH2 (ix (fCR k)) ((cH2 (ix (fCR k))) + (gPD_22 k))) (ix (fDB k)) (((upd cH2 (ix (fCR k)) ((cH2 (ix (fCR k))) + (gPD_22 k))) (ix (fDB k))) - (gPD_22 k))), ar cI (mA 42) 10 cF1, ar cI (mA 43) 10 (upd cO2 (ix (fDB k)) ((cO2 (ix (fDB k))) + ((gOW_22 k) - (gPD_22 k)))), mo aM mA (nI nt) 0 td (nI nm) (nI np) isd ln rf rp sz nx kd wh pl rd (nI R_22) 1 (nI nm) (nI np) (nI R_22), ar cI (mA 19) 20 fRU, ar cI (mA 15) 40 fDY, ar cI (mA 14) 40 fLF, ar cI (mA 13) 40 fRK, ar cI (mA 30) 40 gOW_22, ar cI (mA 31) 40 gRS_22, ar cI (mA 32) 40 gPD_22, ar cI (mA 33) 40 gWS_22, ar cI (mA 34) 10 gFA_22, ar cI (mA 5) 10 fPU, ar cI (mA 8) 40 fCR, ar cI (mA 7) 40 fDB] H := hP
                have hD : va_D A [ar cI (mA 40) 40 (upd cP2 k (gPD_22 k)), ar cI (mA 41) 10 (upd (upd cH2 (ix (fCR k)) ((cH2 (ix (fCR k))) + (gPD_22 k))) (ix (fDB k)) (((upd cH2 (ix (fCR k)) ((cH2 (ix (fCR k))) + (gPD_22 k))) (ix (fDB k))) - (gPD_22 k))), ar cI (mA 42) 10 cF1, ar cI (mA 43) 10 (upd cO2 (ix (fDB k)) ((cO2 (ix (fDB k))) + ((gOW_22 k) - (gPD_22 k)))), mo aM mA (nI nt) 0 td (nI nm) (nI np) isd ln rf rp sz nx kd wh pl rd (nI R_22) 1 (nI nm) (nI np) (nI R_22), ar cI (mA 19) 20 fRU, ar cI (mA 15) 40 fDY, ar cI (mA 14) 40 fLF, ar cI (mA 13) 40 fRK, ar cI (mA 30) 40 gOW_22, ar cI (mA 31) 40 gRS_22, ar cI (mA 32) 40 gPD_22, ar cI (mA 33) 40 gWS_22, ar cI (mA 34) 10 gFA_22, ar cI (mA 5) 10 fPU, ar cI (mA 8) 40 fCR, ar cI (mA 7) 40 fDB] := hD
                refine lv_iinc (v := (nI (k + 1))) (lv' := [(3, .int (nI (k + 1))), (0, .ref aM), (1, .int x), (2, .int n)]) hx hb dX8_clear_209 hl (k := 3) rfl (nI_inc k 1 (by decide)) (by decide) rfl (fun ls hl => ?_)
                refine lv_goto (tgt := 122) hx hb dX8_clear_212 (by decide) ?_
                exact ih_122 (k + 1) (upd cP2 k (gPD_22 k)) (upd (upd cH2 (ix (fCR k)) ((cH2 (ix (fCR k))) + (gPD_22 k))) (ix (fDB k)) (((upd cH2 (ix (fCR k)) ((cH2 (ix (fCR k))) + (gPD_22 k))) (ix (fDB k))) - (gPD_22 k))) (upd cO2 (ix (fDB k)) ((cO2 (ix (fDB k))) + ((gOW_22 k) - (gPD_22 k)))) (by omega) (by omega) (fil_step g1 rfl) (by rw [g2]; rfl) (by rw [g3]; rfl) _ _ (hP) (hD) hS ls (lv_sub hl [1, 2, 3, 0] rfl)
          exact L_122 ((np - 0) + 1) 0 fcP cH1 cO1 (Nat.lt_succ_self _) (by omega) (fil_0.symm) (rfl) (rfl) _ _ (hP) (hD) hS ls (lv_sub hl [1, 2, 3, 0] rfl)
        · skip
          have k_63 : ¬ nm ≤ j := fun h9 => c_63 ((nI_leI (a := nm) (b := j) (by omega) (by omega)).mpr h9)
          refine lv_aload_n hx hb dX8_clear_66 rfl (lv_at hl 0 rfl) ?_
          refine va_get (D := D) (ci := 8) (v := .ref (mA 41)) (C := RX8) (T := TX8) (N := 44) hx hb hts inX8 hown hK hP 4 rfl rfl 41 (by decide) fl78 (fun _ h9 => h9) rfl dX8_clear_67 ?_
          refine lv_iload_n hx hb dX8_clear_70 rfl (lv_at hl 3 rfl) ?_
          refine lv_aload_n hx hb dX8_clear_71 rfl (lv_at hl 0 rfl) ?_
          refine va_get (D := D) (ci := 8) (v := .ref (mA 5)) (C := RX8) (T := TX8) (N := 44) hx hb hts inX8 hown hK hP 4 rfl rfl 5 (by decide) fl13 (fun _ h9 => h9) rfl dX8_clear_72 ?_
          refine lv_iload_n hx hb dX8_clear_75 rfl (lv_at hl 3 rfl) ?_
          refine m_iald (k := j) hx hb hK hP 14 0 rfl rfl (by omega) (by decide) dX8_clear_76 ?_
          refine m_iast (k := j) (x := (fPU j)) hx hb hK hP hD hS 1 0 rfl rfl (by omega) (by decide) dX8_clear_77 (fun H locs hP hD hS => ?_)
          have hP : va_P D vwCl [ar cI (mA 40) 40 fcP, ar cI (mA 41) 10 (upd cH1 j (fPU j)), ar cI (mA 42) 10 cF1, ar cI (mA 43) 10 cO1, mo aM mA (nI nt) 0 td (nI nm) (nI np) isd ln rf rp sz nx kd wh pl rd (nI R_22) 1 (nI nm) (nI np) (nI R_22), ar cI (mA 19) 20 fRU, ar cI (mA 15) 40 fDY, ar cI (mA 14) 40 fLF, ar cI (mA 13) 40 fRK, ar cI (mA 30) 40 gOW_22, ar cI (mA 31) 40 gRS_22, ar cI (mA 32) 40 gPD_22, ar cI (mA 33) 40 gWS_22, ar cI (mA 34) 10 gFA_22, ar cI (mA 5) 10 fPU, ar cI (mA 8) 40 fCR, ar cI (mA 7) 40 fDB] H := hP
          have hD : va_D A [ar cI (mA 40) 40 fcP, ar cI (mA 41) 10 (upd cH1 j (fPU j)), ar cI (mA 42) 10 cF1, ar cI (mA 43) 10 cO1, mo aM mA (nI nt) 0 td (nI nm) (nI np) isd ln rf rp sz nx kd wh pl rd (nI R_22) 1 (nI nm) (nI np) (nI R_22), ar cI (mA 19) 20 fRU, ar cI (mA 15) 40 fDY, ar cI (mA 14) 40 fLF, ar cI (mA 13) 40 fRK, ar cI (mA 30) 40 gOW_22, ar cI (mA 31) 40 gRS_22, ar cI (mA 32) 40 gPD_22, ar cI (mA 33) 40 gWS_22, ar cI (mA 34) 10 gFA_22, ar cI (mA 5) 10 fPU, ar cI (mA 8) 40 fCR, ar cI (mA 7) 40 fDB] := hD
          refine lv_aload_n hx hb dX8_clear_78 rfl (lv_at hl 0 rfl) ?_
          refine va_get (D := D) (ci := 8) (v := .ref (mA 43)) (C := RX8) (T := TX8) (N := 44) hx hb hts inX8 hown hK hP 4 rfl rfl 43 (by decide) fl84 (fun _ h9 => h9) rfl dX8_clear_79 ?_
          refine lv_iload_n hx hb dX8_clear_82 rfl (lv_at hl 3 rfl) ?_
          refine lv_iconst (v := 0) hx hb dX8_clear_83 (by decide) ?_
          refine m_iast (k := j) (x := 0) hx hb hK hP hD hS 3 0 rfl rfl (by omega) (by decide) dX8_clear_84 (fun H locs hP hD hS => ?_)
          have hP : va_P D vwCl [ar cI (mA 40) 40 fcP, ar cI (mA 41) 10 (upd cH1 j (fPU j)), ar cI (mA 42) 10 cF1, ar cI (mA 43) 10 (upd cO1 j 0), mo aM mA (nI nt) 0 td (nI nm) (nI np) isd ln rf rp sz nx kd wh pl rd (nI R_22) 1 (nI nm) (nI np) (nI R_22), ar cI (mA 19) 20 fRU, ar cI (mA 15) 40 fDY, ar cI (mA 14) 40 fLF, ar cI (mA 13) 40 fRK, ar cI (mA 30) 40 gOW_22, ar cI (mA 31) 40 gRS_22, ar cI (mA 32) 40 gPD_22, ar cI (mA 33) 40 gWS_22, ar cI (mA 34) 10 gFA_22, ar cI (mA 5) 10 fPU, ar cI (mA 8) 40 fCR, ar cI (mA 7) 40 fDB] H := hP
          have hD : va_D A [ar cI (mA 40) 40 fcP, ar cI (mA 41) 10 (upd cH1 j (fPU j)), ar cI (mA 42) 10 cF1, ar cI (mA 43) 10 (upd cO1 j 0), mo aM mA (nI nt) 0 td (nI nm) (nI np) isd ln rf rp sz nx kd wh pl rd (nI R_22) 1 (nI nm) (nI np) (nI R_22), ar cI (mA 19) 20 fRU, ar cI (mA 15) 40 fDY, ar cI (mA 14) 40 fLF, ar cI (mA 13) 40 fRK, ar cI (mA 30) 40 gOW_22, ar cI (mA 31) 40 gRS_22, ar cI (mA 32) 40 gPD_22, ar cI (mA 33) 40 gWS_22, ar cI (mA 34) 10 gFA_22, ar cI (mA 5) 10 fPU, ar cI (mA 8) 40 fCR, ar cI (mA 7) 40 fDB] := hD
          refine lv_aload_n hx hb dX8_clear_85 rfl (lv_at hl 0 rfl) ?_
          refine va_get (D := D) (ci := 8) (v := .ref (mA 42)) (C := RX8) (T := TX8) (N := 44) hx hb hts inX8 hown hK hP 4 rfl rfl 42 (by decide) fl81 (fun _ h9 => h9) rfl dX8_clear_86 ?_
          refine lv_iload_n hx hb dX8_clear_89 rfl (lv_at hl 3 rfl) ?_
          refine lv_aload_n hx hb dX8_clear_90 rfl (lv_at hl 0 rfl) ?_
          refine va_get (D := D) (ci := 8) (v := .ref (mA 34)) (C := RX8) (T := TX8) (N := 44) hx hb hts inX8 hown hK hP 4 rfl rfl 34 (by decide) fl72 (fun _ h9 => h9) rfl dX8_clear_91 ?_
          refine lv_iload_n hx hb dX8_clear_94 rfl (lv_at hl 3 rfl) ?_
          refine m_iald (k := j) hx hb hK hP 13 0 rfl rfl (by omega) (by decide) dX8_clear_95 ?_
          refine m_iast (k := j) (x := (gFA_22 j)) hx hb hK hP hD hS 2 0 rfl rfl (by omega) (by decide) dX8_clear_96 (fun H locs hP hD hS => ?_)
          have hP : va_P D vwCl [ar cI (mA 40) 40 fcP, ar cI (mA 41) 10 (upd cH1 j (fPU j)), ar cI (mA 42) 10 (upd cF1 j (gFA_22 j)), ar cI (mA 43) 10 (upd cO1 j 0), mo aM mA (nI nt) 0 td (nI nm) (nI np) isd ln rf rp sz nx kd wh pl rd (nI R_22) 1 (nI nm) (nI np) (nI R_22), ar cI (mA 19) 20 fRU, ar cI (mA 15) 40 fDY, ar cI (mA 14) 40 fLF, ar cI (mA 13) 40 fRK, ar cI (mA 30) 40 gOW_22, ar cI (mA 31) 40 gRS_22, ar cI (mA 32) 40 gPD_22, ar cI (mA 33) 40 gWS_22, ar cI (mA 34) 10 gFA_22, ar cI (mA 5) 10 fPU, ar cI (mA 8) 40 fCR, ar cI (mA 7) 40 fDB] H := hP
          have hD : va_D A [ar cI (mA 40) 40 fcP, ar cI (mA 41) 10 (upd cH1 j (fPU j)), ar cI (mA 42) 10 (upd cF1 j (gFA_22 j)), ar cI (mA 43) 10 (upd cO1 j 0), mo aM mA (nI nt) 0 td (nI nm) (nI np) isd ln rf rp sz nx kd wh pl rd (nI R_22) 1 (nI nm) (nI np) (nI R_22), ar cI (mA 19) 20 fRU, ar cI (mA 15) 40 fDY, ar cI (mA 14) 40 fLF, ar cI (mA 13) 40 fRK, ar cI (mA 30) 40 gOW_22, ar cI (mA 31) 40 gRS_22, ar cI (mA 32) 40 gPD_22, ar cI (mA 33) 40 gWS_22, ar cI (mA 34) 10 gFA_22, ar cI (mA 5) 10 fPU, ar cI (mA 8) 40 fCR, ar cI (mA 7) 40 fDB] := hD
          refine lv_iload_n hx hb dX8_clear_97 rfl (lv_at hl 2 rfl) ?_
          refine lv_aload_n hx hb dX8_clear_98 rfl (lv_at hl 0 rfl) ?_
          refine va_get (D := D) (ci := 8) (v := .ref (mA 34)) (C := RX8) (T := TX8) (N := 44) hx hb hts inX8 hown hK hP 4 rfl rfl 34 (by decide) fl72 (fun _ h9 => h9) rfl dX8_clear_99 ?_
          refine lv_iload_n hx hb dX8_clear_102 rfl (lv_at hl 3 rfl) ?_
          refine m_iald (k := j) hx hb hK hP 13 0 rfl rfl (by omega) (by decide) dX8_clear_103 ?_
          refine lv_if_le (tgt := 111) hx hb dX8_clear_104 (by decide) (fun c_104 => ?_) (fun c_104 => ?_)
          · skip
            refine lv_iconst (v := 0) hx hb dX8_clear_111 (by decide) ?_
            refine lv_iadd hx hb dX8_clear_112 ?_
            refine lv_istore_n (lv' := [(2, .int (n + 0)), (0, .ref aM), (1, .int x), (3, .int (nI j))]) hx hb dX8_clear_113 rfl hl (by decide) rfl (fun ls hl => ?_)
            refine lv_iinc (v := (nI (j + 1))) (lv' := [(3, .int (nI (j + 1))), (2, .int (n + 0)), (0, .ref aM), (1, .int x)]) hx hb dX8_clear_114 hl (k := 3) rfl (nI_inc j 1 (by decide)) (by decide) rfl (fun ls hl => ?_)
            refine lv_goto (tgt := 58) hx hb dX8_clear_117 (by decide) ?_
            exact ih_58 (j + 1) (n + 0) (upd cH1 j (fPU j)) (upd cO1 j 0) (upd cF1 j (gFA_22 j)) (by omega) (by omega) (by rw [hn]; exact cnt_step (by rw [w5.2 j (by omega)]; exact failR_pos (by omega)) (by first | exact Or.inl ⟨c_104, rfl⟩ | exact Or.inr ⟨c_104, rfl⟩)) (fil_step f1 rfl) (fil_step f2 rfl) (fil_step f3 rfl) _ _ (hP) (hD) hS ls (lv_sub hl [2, 3, 1, 0] rfl)
          · skip
            refine lv_iconst (v := 1) hx hb dX8_clear_107 (by decide) ?_
            refine lv_goto (tgt := 112) hx hb dX8_clear_108 (by decide) ?_
            refine lv_iadd hx hb dX8_clear_112 ?_
            refine lv_istore_n (lv' := [(2, .int (n + 1)), (0, .ref aM), (1, .int x), (3, .int (nI j))]) hx hb dX8_clear_113 rfl hl (by decide) rfl (fun ls hl => ?_)
            refine lv_iinc (v := (nI (j + 1))) (lv' := [(3, .int (nI (j + 1))), (2, .int (n + 1)), (0, .ref aM), (1, .int x)]) hx hb dX8_clear_114 hl (k := 3) rfl (nI_inc j 1 (by decide)) (by decide) rfl (fun ls hl => ?_)
            refine lv_goto (tgt := 58) hx hb dX8_clear_117 (by decide) ?_
            exact ih_58 (j + 1) (n + 1) (upd cH1 j (fPU j)) (upd cO1 j 0) (upd cF1 j (gFA_22 j)) (by omega) (by omega) (by rw [hn]; exact cnt_step (by rw [w5.2 j (by omega)]; exact failR_pos (by omega)) (by first | exact Or.inl ⟨c_104, rfl⟩ | exact Or.inr ⟨c_104, rfl⟩)) (fil_step f1 rfl) (fil_step f2 rfl) (fil_step f3 rfl) _ _ (hP) (hD) hS ls (lv_sub hl [2, 3, 1, 0] rfl)
    exact L_58 ((nm - 0) + 1) 0 0 fcH fcO fcF (Nat.lt_succ_self _) (by omega) (rfl) (fil_0.symm) (fil_0.symm) (fil_0.symm) _ _ (hP) (hD) hS ls (lv_sub hl [2, 3, 1, 0] rfl)
  · skip
    refine lv_aload_n hx hb dX8_clear_10 rfl (lv_at hl 0 rfl) ?_
    refine va_get (D := D) (ci := 8) (v := .int isd) (C := RX8) (T := TX8) (N := 44) hx hb hts inX8 hown hK hP 0 rfl rfl 17 (by decide) fl160 (fun _ h9 => h9) rfl dX8_clear_11 ?_
    refine lv_if_eq (tgt := 21) hx hb dX8_clear_14 (by decide) (fun c_14 => ?_) (fun c_14 => ?_)
    · skip
      refine lv_iconst (v := 0) hx hb dX8_clear_21 (by decide) ?_
      refine m_cVv (As := [.int 0]) (rest := []) (wr := [ar cI (mA 40) 40 fcP, ar cI (mA 41) 10 fcH, ar cI (mA 42) 10 fcF, ar cI (mA 43) 10 fcO]) ⟨hx, hb, hml, hown, hts⟩ (c_X8_works l D cI cZ aM mA nt 0 td nm np isd ln rf rp sz nx kd wh pl rd rn ic mcm mcp mcr fRU fDY fLF fRK fOW fRS fPD fWS fFA fPU fCR fDB 0 (by first | assumption | omega) (fun k hk => (by rw [if_pos rfl]; exact HP.2.2.2.2.2.1 k hk)) (by rw [if_pos rfl]; exact plain_ok HP)) (cwV 1 hts gX8_clear_X8_works rfl rfl rfl (by decide +kernel) ⟨Nat.le_of_ble_eq_true rfl, Nat.le_of_ble_eq_true rfl⟩) hN hK hP hD hS hA [0, 1, 2, 3, 4, 5, 6, 7, 8, 9, 10, 11, 12] [13, 14, 15, 16] rfl rfl (by decide) (by decide) (by decide) 0 (ci := 8) rfl rfl rfl rfl hl.1 rfl (Nat.le_of_ble_eq_true rfl) dX8_clear_22 ⟨Nat.le_of_ble_eq_true rfl, Nat.le_of_ble_eq_true rfl⟩ (fun u_22 H locs hq_22 hP hD hS => ?_)
      obtain ⟨gOW_22, gRS_22, gPD_22, gWS_22, gFA_22, R_22⟩ := u_22
      replace hq_22 : gOW_22 = fil (if 0 = 0 then fLF else fun j => mLeft fRU (fLF j) (fRK j) (fDY j)) fOW np ∧ gRS_22 = fil (if 0 = 0 then fRK else fun j => mRank fRU (fRK j) (fDY j)) fRS np ∧ isR nm (TRF fDB fCR (owG gOW_22 np) (odF gRS_22 np) np (fun m => (fPU m).toInt)) R_22 ∧ R_22 ≤ 39960 ∧ MSt np nm fDB (odF gRS_22 np) (owG gOW_22 np) ((TRF fDB fCR (owG gOW_22 np) (odF gRS_22 np) np (fun m => (fPU m).toInt)) R_22) (fun m => failR (TRF fDB fCR (owG gOW_22 np) (odF gRS_22 np) np (fun m => (fPU m).toInt)) m R_22) gPD_22 gFA_22 := hq_22
      have hP : va_P D vwCl [ar cI (mA 40) 40 fcP, ar cI (mA 41) 10 fcH, ar cI (mA 42) 10 fcF, ar cI (mA 43) 10 fcO, mo aM mA (nI nt) 0 td (nI nm) (nI np) isd ln rf rp sz nx kd wh pl rd (nI R_22) ic mcm mcp mcr, ar cI (mA 19) 20 fRU, ar cI (mA 15) 40 fDY, ar cI (mA 14) 40 fLF, ar cI (mA 13) 40 fRK, ar cI (mA 30) 40 gOW_22, ar cI (mA 31) 40 gRS_22, ar cI (mA 32) 40 gPD_22, ar cI (mA 33) 40 gWS_22, ar cI (mA 34) 10 gFA_22, ar cI (mA 5) 10 fPU, ar cI (mA 8) 40 fCR, ar cI (mA 7) 40 fDB] H := hP
      have hD : va_D A [ar cI (mA 40) 40 fcP, ar cI (mA 41) 10 fcH, ar cI (mA 42) 10 fcF, ar cI (mA 43) 10 fcO, mo aM mA (nI nt) 0 td (nI nm) (nI np) isd ln rf rp sz nx kd wh pl rd (nI R_22) ic mcm mcp mcr, ar cI (mA 19) 20 fRU, ar cI (mA 15) 40 fDY, ar cI (mA 14) 40 fLF, ar cI (mA 13) 40 fRK, ar cI (mA 30) 40 gOW_22, ar cI (mA 31) 40 gRS_22, ar cI (mA 32) 40 gPD_22, ar cI (mA 33) 40 gWS_22, ar cI (mA 34) 10 gFA_22, ar cI (mA 5) 10 fPU, ar cI (mA 8) 40 fCR, ar cI (mA 7) 40 fDB] := hD
      obtain ⟨w1, w2, w3, w4, w5⟩ := hq_22
      rw [if_pos rfl] at w1 w2
      have hOW : ∀ j, j < np → gOW_22 j = fLF j := (fun j hj => by rw [w1]; simp only [fil, if_pos hj])
      have hRS : ∀ j, j < np → gRS_22 j = fRK j := (fun j hj => by rw [w2]; simp only [fil, if_pos hj])
      have hro1 : rkOk gRS_22 np := (fun j hj => by rw [hRS j hj]; exact (plain_ok HP) j hj)
      have how1 : ∀ j, j < np → 0 ≤ (gOW_22 j).toInt ∧ (gOW_22 j).toInt ≤ 999 := (fun j hj => by rw [hOW j hj]; exact (HP.2.2.2.2.2.1) j hj)
      have HC := clcM_ok HP hro1 how1
      have hpd := MSt_pd HC hro1 w5
      have hcond : ¬ (¬ x = 0 ∧ ¬ isd = 0) := (by first | exact fun q => q.1 c_7 | exact fun q => q.2 c_14)
      refine lv_aload_n hx hb dX8_clear_25 rfl (lv_at hl 0 rfl) ?_
      refine lv_iconst (v := 1) hx hb dX8_clear_26 (by decide) ?_
      refine va_put (D := D) (ci := 8) (v := .int 1) (ty := .boolean) (C := RX8) (T := TX8) (N := 44) hx hb hts inX8 tyX8 tyX8_ok nmX8 hown hK hP hD hS 4 rfl rfl 36 (by decide) fl186 (fun _ h9 => h9) rfl (by decide +kernel) (rfl) (rfl) (Nat.le_of_ble_eq_true rfl) dX8_clear_27 (fun H locs hP hD hS => ?_)
      have hP : va_P D vwCl [ar cI (mA 40) 40 fcP, ar cI (mA 41) 10 fcH, ar cI (mA 42) 10 fcF, ar cI (mA 43) 10 fcO, mo aM mA (nI nt) 0 td (nI nm) (nI np) isd ln rf rp sz nx kd wh pl rd (nI R_22) 1 mcm mcp mcr, ar cI (mA 19) 20 fRU, ar cI (mA 15) 40 fDY, ar cI (mA 14) 40 fLF, ar cI (mA 13) 40 fRK, ar cI (mA 30) 40 gOW_22, ar cI (mA 31) 40 gRS_22, ar cI (mA 32) 40 gPD_22, ar cI (mA 33) 40 gWS_22, ar cI (mA 34) 10 gFA_22, ar cI (mA 5) 10 fPU, ar cI (mA 8) 40 fCR, ar cI (mA 7) 40 fDB] H := hP
      have hD : va_D A [ar cI (mA 40) 40 fcP, ar cI (mA 41) 10 fcH, ar cI (mA 42) 10 fcF, ar cI (mA 43) 10 fcO, mo aM mA (nI nt) 0 td (nI nm) (nI np) isd ln rf rp sz nx kd wh pl rd (nI R_22) 1 mcm mcp mcr, ar cI (mA 19) 20 fRU, ar cI (mA 15) 40 fDY, ar cI (mA 14) 40 fLF, ar cI (mA 13) 40 fRK, ar cI (mA 30) 40 gOW_22, ar cI (mA 31) 40 gRS_22, ar cI (mA 32) 40 gPD_22, ar cI (mA 33) 40 gWS_22, ar cI (mA 34) 10 gFA_22, ar cI (mA 5) 10 fPU, ar cI (mA 8) 40 fCR, ar cI (mA 7) 40 fDB] := hD
      refine lv_aload_n hx hb dX8_clear_30 rfl (lv_at hl 0 rfl) ?_
      refine lv_aload_n hx hb dX8_clear_31 rfl (lv_at hl 0 rfl) ?_
      refine va_get (D := D) (ci := 8) (v := .int (nI nm)) (C := RX8) (T := TX8) (N := 44) hx hb hts inX8 hown hK hP 4 rfl rfl 4 (by decide) fl94 (fun _ h9 => h9) rfl dX8_clear_32 ?_
      refine va_put (D := D) (ci := 8) (v := .int (nI nm)) (ty := .int) (C := RX8) (T := TX8) (N := 44) hx hb hts inX8 tyX8 tyX8_ok nmX8 hown hK hP hD hS 4 rfl rfl 37 (by decide) fl189 (fun _ h9 => h9) rfl (by decide +kernel) (rfl) (rfl) (Nat.le_of_ble_eq_true rfl) dX8_clear_35 (fun H locs hP hD hS => ?_)
      have hP : va_P D vwCl [ar cI (mA 40) 40 fcP, ar cI (mA 41) 10 fcH, ar cI (mA 42) 10 fcF, ar cI (mA 43) 10 fcO, mo aM mA (nI nt) 0 td (nI nm) (nI np) isd ln rf rp sz nx kd wh pl rd (nI R_22) 1 (nI nm) mcp mcr, ar cI (mA 19) 20 fRU, ar cI (mA 15) 40 fDY, ar cI (mA 14) 40 fLF, ar cI (mA 13) 40 fRK, ar cI (mA 30) 40 gOW_22, ar cI (mA 31) 40 gRS_22, ar cI (mA 32) 40 gPD_22, ar cI (mA 33) 40 gWS_22, ar cI (mA 34) 10 gFA_22, ar cI (mA 5) 10 fPU, ar cI (mA 8) 40 fCR, ar cI (mA 7) 40 fDB] H := hP
      have hD : va_D A [ar cI (mA 40) 40 fcP, ar cI (mA 41) 10 fcH, ar cI (mA 42) 10 fcF, ar cI (mA 43) 10 fcO, mo aM mA (nI nt) 0 td (nI nm) (nI np) isd ln rf rp sz nx kd wh pl rd (nI R_22) 1 (nI nm) mcp mcr, ar cI (mA 19) 20 fRU, ar cI (mA 15) 40 fDY, ar cI (mA 14) 40 fLF, ar cI (mA 13) 40 fRK, ar cI (mA 30) 40 gOW_22, ar cI (mA 31) 40 gRS_22, ar cI (mA 32) 40 gPD_22, ar cI (mA 33) 40 gWS_22, ar cI (mA 34) 10 gFA_22, ar cI (mA 5) 10 fPU, ar cI (mA 8) 40 fCR, ar cI (mA 7) 40 fDB] := hD
      refine lv_aload_n hx hb dX8_clear_38 rfl (lv_at hl 0 rfl) ?_
      refine lv_aload_n hx hb dX8_clear_39 rfl (lv_at hl 0 rfl) ?_
      refine va_get (D := D) (ci := 8) (v := .int (nI np)) (C := RX8) (T := TX8) (N := 44) hx hb hts inX8 hown hK hP 4 rfl rfl 6 (by decide) fl101 (fun _ h9 => h9) rfl dX8_clear_40 ?_
      refine va_put (D := D) (ci := 8) (v := .int (nI np)) (ty := .int) (C := RX8) (T := TX8) (N := 44) hx hb hts inX8 tyX8 tyX8_ok nmX8 hown hK hP hD hS 4 rfl rfl 38 (by decide) fl192 (fun _ h9 => h9) rfl (by decide +kernel) (rfl) (rfl) (Nat.le_of_ble_eq_true rfl) dX8_clear_43 (fun H locs hP hD hS => ?_)
      have hP : va_P D vwCl [ar cI (mA 40) 40 fcP, ar cI (mA 41) 10 fcH, ar cI (mA 42) 10 fcF, ar cI (mA 43) 10 fcO, mo aM mA (nI nt) 0 td (nI nm) (nI np) isd ln rf rp sz nx kd wh pl rd (nI R_22) 1 (nI nm) (nI np) mcr, ar cI (mA 19) 20 fRU, ar cI (mA 15) 40 fDY, ar cI (mA 14) 40 fLF, ar cI (mA 13) 40 fRK, ar cI (mA 30) 40 gOW_22, ar cI (mA 31) 40 gRS_22, ar cI (mA 32) 40 gPD_22, ar cI (mA 33) 40 gWS_22, ar cI (mA 34) 10 gFA_22, ar cI (mA 5) 10 fPU, ar cI (mA 8) 40 fCR, ar cI (mA 7) 40 fDB] H := hP
      have hD : va_D A [ar cI (mA 40) 40 fcP, ar cI (mA 41) 10 fcH, ar cI (mA 42) 10 fcF, ar cI (mA 43) 10 fcO, mo aM mA (nI nt) 0 td (nI nm) (nI np) isd ln rf rp sz nx kd wh pl rd (nI R_22) 1 (nI nm) (nI np) mcr, ar cI (mA 19) 20 fRU, ar cI (mA 15) 40 fDY, ar cI (mA 14) 40 fLF, ar cI (mA 13) 40 fRK, ar cI (mA 30) 40 gOW_22, ar cI (mA 31) 40 gRS_22, ar cI (mA 32) 40 gPD_22, ar cI (mA 33) 40 gWS_22, ar cI (mA 34) 10 gFA_22, ar cI (mA 5) 10 fPU, ar cI (mA 8) 40 fCR, ar cI (mA 7) 40 fDB] := hD
      refine lv_aload_n hx hb dX8_clear_46 rfl (lv_at hl 0 rfl) ?_
      refine lv_aload_n hx hb dX8_clear_47 rfl (lv_at hl 0 rfl) ?_
      refine va_get (D := D) (ci := 8) (v := .int (nI R_22)) (C := RX8) (T := TX8) (N := 44) hx hb hts inX8 hown hK hP 4 rfl rfl 35 (by decide) fl176 (fun _ h9 => h9) rfl dX8_clear_48 ?_
      refine va_put (D := D) (ci := 8) (v := .int (nI R_22)) (ty := .int) (C := RX8) (T := TX8) (N := 44) hx hb hts inX8 tyX8 tyX8_ok nmX8 hown hK hP hD hS 4 rfl rfl 39 (by decide) fl195 (fun _ h9 => h9) rfl (by decide +kernel) (rfl) (rfl) (Nat.le_of_ble_eq_true rfl) dX8_clear_51 (fun H locs hP hD hS => ?_)
      have hP : va_P D vwCl [ar cI (mA 40) 40 fcP, ar cI (mA 41) 10 fcH, ar cI (mA 42) 10 fcF, ar cI (mA 43) 10 fcO, mo aM mA (nI nt) 0 td (nI nm) (nI np) isd ln rf rp sz nx kd wh pl rd (nI R_22) 1 (nI nm) (nI np) (nI R_22), ar cI (mA 19) 20 fRU, ar cI (mA 15) 40 fDY, ar cI (mA 14) 40 fLF, ar cI (mA 13) 40 fRK, ar cI (mA 30) 40 gOW_22, ar cI (mA 31) 40 gRS_22, ar cI (mA 32) 40 gPD_22, ar cI (mA 33) 40 gWS_22, ar cI (mA 34) 10 gFA_22, ar cI (mA 5) 10 fPU, ar cI (mA 8) 40 fCR, ar cI (mA 7) 40 fDB] H := hP
      have hD : va_D A [ar cI (mA 40) 40 fcP, ar cI (mA 41) 10 fcH, ar cI (mA 42) 10 fcF, ar cI (mA 43) 10 fcO, mo aM mA (nI nt) 0 td (nI nm) (nI np) isd ln rf rp sz nx kd wh pl rd (nI R_22) 1 (nI nm) (nI np) (nI R_22), ar cI (mA 19) 20 fRU, ar cI (mA 15) 40 fDY, ar cI (mA 14) 40 fLF, ar cI (mA 13) 40 fRK, ar cI (mA 30) 40 gOW_22, ar cI (mA 31) 40 gRS_22, ar cI (mA 32) 40 gPD_22, ar cI (mA 33) 40 gWS_22, ar cI (mA 34) 10 gFA_22, ar cI (mA 5) 10 fPU, ar cI (mA 8) 40 fCR, ar cI (mA 7) 40 fDB] := hD
      refine lv_iconst (v := 0) hx hb dX8_clear_54 (by decide) ?_
      refine lv_istore_n (lv' := [(2, .int 0), (0, .ref aM), (1, .int x)]) hx hb dX8_clear_55 rfl hl (by decide) rfl (fun ls hl => ?_)
      refine lv_iconst (v := 0) hx hb dX8_clear_56 (by decide) ?_
      refine lv_istore_n (lv' := [(3, .int 0), (2, .int 0), (0, .ref aM), (1, .int x)]) hx hb dX8_clear_57 rfl hl (by decide) rfl (fun ls hl => ?_)
      have L_58 : ∀ (n_58 : Nat) (j : Nat) (n : Int32) (cH1 : Nat → Int32) (cO1 : Nat → Int32) (cF1 : Nat → Int32), (nm - j < n_58) → (j ≤ nm) → (n = cntF gFA_22 j) → (cH1 = fil fPU fcH j) → (cO1 = fil (fun _ => 0) fcO j) → (cF1 = fil gFA_22 fcF j) → ∀ (H : Heap) (locs : List Loc), va_P D vwCl [ar cI (mA 40) 40 fcP, ar cI (mA 41) 10 cH1, ar cI (mA 42) 10 cF1, ar cI (mA 43) 10 cO1, mo aM mA (nI nt) 0 td (nI nm) (nI np) isd ln rf rp sz nx kd wh pl rd (nI R_22) 1 (nI nm) (nI np) (nI R_22), ar cI (mA 19) 20 fRU, ar cI (mA 15) 40 fDY, ar cI (mA 14) 40 fLF, ar cI (mA 13) 40 fRK, ar cI (mA 30) 40 gOW_22, ar cI (mA 31) 40 gRS_22, ar cI (mA 32) 40 gPD_22, ar cI (mA 33) 40 gWS_22, ar cI (mA 34) 10 gFA_22, ar cI (mA 5) 10 fPU, ar cI (mA 8) 40 fCR, ar cI (mA 7) 40 fDB] H → va_D A [ar cI (mA 40) 40 fcP, ar cI (mA 41) 10 cH1, ar cI (mA 42) 10 cF1, ar cI (mA 43) 10 cO1, mo aM mA (nI nt) 0 td (nI nm) (nI np) isd ln rf rp sz nx kd wh pl rd (nI R_22) 1 (nI nm) (nI np) (nI R_22), ar cI (mA 19) 20 fRU, ar cI (mA 15) 40 fDY, ar cI (mA 14) 40 fLF, ar cI (mA 13) 40 fRK, ar cI (mA 30) 40 gOW_22, ar cI (mA 31) 40 gRS_22, ar cI (mA 32) 40 gPD_22, ar cI (mA 33) 40 gWS_22, ar cI (mA 34) 10 gFA_22, ar cI (mA 5) 10 fPU, ar cI (mA 8) 40 fCR, ar cI (mA 7) 40 fDB] → va_S A s.heap H locs → ∀ ls : Array Slot, lv_has ls 4 [(0, .ref aM), (1, .int x), (2, .int n), (3, .int (nI j))] → W p l e r_c_X8_clear s m (([.ref aM, .int x] : List Value).toArray) below meth c H locs 0 0 Q (F0 m 58 ls []) := by
        intro n_58
        induction n_58 with
        | zero => intro j n cH1 cO1 cF1 hfu; exact absurd hfu (Nat.not_lt_zero _)
        | succ n_58 ih_58 =>
          intro j n cH1 cO1 cF1 hfu_58 hj hn f1 f2 f3 H locs hP hD hS ls hl
          refine lv_iload_n hx hb dX8_clear_58 rfl (lv_at hl 3 rfl) ?_
          refine lv_aload_n hx hb dX8_clear_59 rfl (lv_at hl 0 rfl) ?_
          refine va_get (D := D) (ci := 8) (v := .int (nI nm)) (C := RX8) (T := TX8) (N := 44) hx hb hts inX8 hown hK hP 4 rfl rfl 4 (by decide) fl94 (fun _ h9 => h9) rfl dX8_clear_60 ?_
          refine lv_icmp_ge (tgt := 120) hx hb dX8_clear_63 (by decide) (fun c_63 => ?_) (fun c_63 => ?_)
          · skip
            have k_63 : nm ≤ j := (nI_leI (a := nm) (b := j) (by omega) (by omega)).mp c_63
            refine lv_iconst (v := 0) hx hb dX8_clear_120 (by decide) ?_
            refine lv_istore_n (lv' := [(3, .int 0), (0, .ref aM), (1, .int x), (2, .int n)]) hx hb dX8_clear_121 rfl hl (by decide) rfl (fun ls hl => ?_)
            have L_122 : ∀ (n_122 : Nat) (k : Nat) (cP2 : Nat → Int32) (cH2 : Nat → Int32) (cO2 : Nat → Int32), (np - k < n_122) → (k ≤ np) → (cP2 = fil gPD_22 fcP k) → (cH2 = hasM gPD_22 (dbN fDB) (dbN fCR) cH1 k) → (cO2 = oweM gOW_22 gPD_22 (dbN fDB) cO1 k) → ∀ (H : Heap) (locs : List Loc), va_P D vwCl [ar cI (mA 40) 40 cP2, ar cI (mA 41) 10 cH2, ar cI (mA 42) 10 cF1, ar cI (mA 43) 10 cO2, mo aM mA (nI nt) 0 td (nI nm) (nI np) isd ln rf rp sz nx kd wh pl rd (nI R_22) 1 (nI nm) (nI np) (nI R_22), ar cI (mA 19) 20 fRU, ar cI (mA 15) 40 fDY, ar cI (mA 14) 40 fLF, ar cI (mA 13) 40 fRK, ar cI (mA 30) 40 gOW_22, ar cI (mA 31) 40 gRS_22, ar cI (mA 32) 40 gPD_22, ar cI (mA 33) 40 gWS_22, ar cI (mA 34) 10 gFA_22, ar cI (mA 5) 10 fPU, ar cI (mA 8) 40 fCR, ar cI (mA 7) 40 fDB] H → va_D A [ar cI (mA 40) 40 cP2, ar cI (mA 41) 10 cH2, ar cI (mA 42) 10 cF1, ar cI (mA 43) 10 cO2, mo aM mA (nI nt) 0 td (nI nm) (nI np) isd ln rf rp sz nx kd wh pl rd (nI R_22) 1 (nI nm) (nI np) (nI R_22), ar cI (mA 19) 20 fRU, ar cI (mA 15) 40 fDY, ar cI (mA 14) 40 fLF, ar cI (mA 13) 40 fRK, ar cI (mA 30) 40 gOW_22, ar cI (mA 31) 40 gRS_22, ar cI (mA 32) 40 gPD_22, ar cI (mA 33) 40 gWS_22, ar cI (mA 34) 10 gFA_22, ar cI (mA 5) 10 fPU, ar cI (mA 8) 40 fCR, ar cI (mA 7) 40 fDB] → va_S A s.heap H locs → ∀ ls : Array Slot, lv_has ls 4 [(0, .ref aM), (1, .int x), (2, .int n), (3, .int (nI k))] → W p l e r_c_X8_clear s m (([.ref aM, .int x] : List Value).toArray) below meth c H locs 0 0 Q (F0 m 122 ls []) := by
              intro n_122
              induction n_122 with
              | zero => intro k cP2 cH2 cO2 hfu; exact absurd hfu (Nat.not_lt_zero _)
              | succ n_122 ih_122 =>
                intro k cP2 cH2 cO2 hfu_122 hk g1 g2 g3 H locs hP hD hS ls hl
                refine lv_iload_n hx hb dX8_clear_122 rfl (lv_at hl 3 rfl) ?_
                refine lv_aload_n hx hb dX8_clear_123 rfl (lv_at hl 0 rfl) ?_
                refine va_get (D := D) (ci := 8) (v := .int (nI np)) (C := RX8) (T := TX8) (N := 44) hx hb hts inX8 hown hK hP 4 rfl rfl 6 (by decide) fl101 (fun _ h9 => h9) rfl dX8_clear_124 ?_
                refine lv_icmp_ge (tgt := 215) hx hb dX8_clear_127 (by decide) (fun c_127 => ?_) (fun c_127 => ?_)
                · skip
                  have k_127 : np ≤ k := (nI_leI (a := np) (b := k) (by omega) (by omega)).mp c_127
                  refine lv_iload_n hx hb dX8_clear_215 rfl (lv_at hl 2 rfl) ?_
                  have ej : j = nm := (by omega)
                  have ek : k = np := (by omega)
                  rw [ej] at hn f1 f2 f3
                  rw [ek] at g1 g2 g3
                  have hF : ∀ m, m < nm → cF1 m = gFA_22 m := (fun m hm => by rw [f3]; simp only [fil, if_pos hm])
                  have hPP : ∀ q, q < np → cP2 q = gPD_22 q := (fun q hq => by rw [g1]; simp only [fil, if_pos hq])
                  have hH : ∀ m, m < nm → (cH2 m).toInt = (fPU m).toInt + pS (fun k => (gPD_22 k).toInt) (dbN fCR) m np - pS (fun k => (gPD_22 k).toInt) (dbN fDB) m np := (fun m hm => by rw [g2, hasM_val hnp (fun q hq => ⟨(hpd q hq).1, by have := hpd q hq; omega⟩) (fun u hu => by rw [f1]; simp only [fil, if_pos hu]; exact HP.2.2.2.2.2.2 u hu) np (Nat.le_refl _) m hm, f1]; simp only [fil, if_pos hm])
                  have hO : ∀ m, m < nm → (cO2 m).toInt = pS (fun k => (gOW_22 k).toInt) (dbN fDB) m np - pS (fun k => (gPD_22 k).toInt) (dbN fDB) m np := (fun m hm => by rw [g3, oweM_val hnp hpd (fun u hu => by rw [f2]; simp only [fil, if_pos hu]; exact ti0) np (Nat.le_refl _) m hm])
                  have hres := clearRes_M HC hro1 w3 w4 w5 hH hO
                  exact ret n (gOW_22, gRS_22, gPD_22, gWS_22, gFA_22, cP2, cH2, cF1, cO2, R_22) _ _ _ _ dX8_clear_216 (⟨by rw [hn]; exact cntF_congr (fun m hm => (hF m hm).symm), ClearRes_out hPP hF (by first | (rw [if_pos hcond, if_pos hcond]; exact ClearRes_congr hOW hRS hres) | (rw [if_neg hcond, if_neg hcond]; exact ClearRes_congr hOW hRS hres))⟩) (hP.sub [4, 5, 6, 7, 8, 9, 10, 11, 12, 13, 14, 15, 16, 0, 1, 2, 3] rfl) (hD.sub [4, 5, 6, 7, 8, 9, 10, 11, 12, 13, 14, 15, 16, 0, 1, 2, 3] (by decide) rfl) hS
                · skip
                  have k_127 : ¬ np ≤ k := fun h9 => c_127 ((nI_leI (a := np) (b := k) (by omega) (by omega)).mpr h9)
                  refine lv_aload_n hx hb dX8_clear_130 rfl (lv_at hl 0 rfl) ?_
                  refine va_get (D := D) (ci := 8) (v := .ref (mA 40)) (C := RX8) (T := TX8) (N := 44) hx hb hts inX8 hown hK hP 4 rfl rfl 40 (by decide) fl75 (fun _ h9 => h9) rfl dX8_clear_131 ?_
                  refine lv_iload_n hx hb dX8_clear_134 rfl (lv_at hl 3 rfl) ?_
                  refine lv_aload_n hx hb dX8_clear_135 rfl (lv_at hl 0 rfl) ?_
                  refine va_get (D := D) (ci := 8) (v := .ref (mA 32)) (C := RX8) (T := TX8) (N := 44) hx hb hts inX8 hown hK hP 4 rfl rfl 32 (by decide) fl66 (fun _ h9 => h9) rfl dX8_clear_136 ?_
                  refine lv_iload_n hx hb dX8_clear_139 rfl (lv_at hl 3 rfl) ?_
                  refine m_iald (k := k) hx hb hK hP 11 0 rfl rfl (by omega) (by decide) dX8_clear_140 ?_
                  refine m_iast (k := k) (x := (gPD_22 k)) hx hb hK hP hD hS 0 0 rfl rfl (by omega) (by decide) dX8_clear_141 (fun H locs hP hD hS => ?_)
                  have hP : va_P D vwCl [ar cI (mA 40) 40 (upd cP2 k (gPD_22 k)), ar cI (mA 41) 10 cH2, ar cI (mA 42) 10 cF1, ar cI (mA 43) 10 cO2, mo aM mA (nI nt) 0 td (nI nm) (nI np) isd ln rf rp sz nx kd wh pl rd (nI R_22) 1 (nI nm) (nI np) (nI R_22), ar cI (mA 19) 20 fRU, ar cI (mA 15) 40 fDY, ar cI (mA 14) 40 fLF, ar cI (mA 13) 40 fRK, ar cI (mA 30) 40 gOW_22, ar cI (mA 31) 40 gRS_22, ar cI (mA 32) 40 gPD_22, ar cI (mA 33) 40 gWS_22, ar cI (mA 34) 10 gFA_22, ar cI (mA 5) 10 fPU, ar cI (mA 8) 40 fCR, ar cI (mA 7) 40 fDB] H := hP
                  have hD : va_D A [ar cI (mA 40) 40 (upd cP2 k (gPD_22 k)), ar cI (mA 41) 10 cH2, ar cI (mA 42) 10 cF1, ar cI (mA 43) 10 cO2, mo aM mA (nI nt) 0 td (nI nm) (nI np) isd ln rf rp sz nx kd wh pl rd (nI R_22) 1 (nI nm) (nI np) (nI R_22), ar cI (mA 19) 20 fRU, ar cI (mA 15) 40 fDY, ar cI (mA 14) 40 fLF, ar cI (mA 13) 40 fRK, ar cI (mA 30) 40 gOW_22, ar cI (mA 31) 40 gRS_22, ar cI (mA 32) 40 gPD_22, ar cI (mA 33) 40 gWS_22, ar cI (mA 34) 10 gFA_22, ar cI (mA 5) 10 fPU, ar cI (mA 8) 40 fCR, ar cI (mA 7) 40 fDB] := hD
                  refine lv_aload_n hx hb dX8_clear_142 rfl (lv_at hl 0 rfl) ?_
                  refine va_get (D := D) (ci := 8) (v := .ref (mA 41)) (C := RX8) (T := TX8) (N := 44) hx hb hts inX8 hown hK hP 4 rfl rfl 41 (by decide) fl78 (fun _ h9 => h9) rfl dX8_clear_143 ?_
                  refine lv_aload_n hx hb dX8_clear_146 rfl (lv_at hl 0 rfl) ?_
                  refine va_get (D := D) (ci := 8) (v := .ref (mA 8)) (C := RX8) (T := TX8) (N := 44) hx hb hts inX8 hown hK hP 4 rfl rfl 8 (by decide) fl19 (fun _ h9 => h9) rfl dX8_clear_147 ?_
                  refine lv_iload_n hx hb dX8_clear_150 rfl (lv_at hl 3 rfl) ?_
                  refine m_iald (k := k) hx hb hK hP 15 0 rfl rfl (by omega) (by decide) dX8_clear_151 ?_
                  refine lv_dup2_11 hx hb dX8_clear_152 rfl rfl ?_
                  refine va_iald hx hb hK hP 1 0 rfl rfl (vp_wide (hcr k (by omega)) hnm) dX8_clear_153 ?_
                  refine lv_aload_n hx hb dX8_clear_154 rfl (lv_at hl 0 rfl) ?_
                  refine va_get (D := D) (ci := 8) (v := .ref (mA 32)) (C := RX8) (T := TX8) (N := 44) hx hb hts inX8 hown hK hP 4 rfl rfl 32 (by decide) fl66 (fun _ h9 => h9) rfl dX8_clear_155 ?_
                  refine lv_iload_n hx hb dX8_clear_158 rfl (lv_at hl 3 rfl) ?_
                  refine m_iald (k := k) hx hb hK hP 11 0 rfl rfl (by omega) (by decide) dX8_clear_159 ?_
                  refine lv_iadd hx hb dX8_clear_160 ?_
                  refine va_iast (x := ((cH2 (ix (fCR k))) + (gPD_22 k))) hx hb hK hP hD hS 1 0 rfl rfl (vp_wide (hcr k (by omega)) hnm) dX8_clear_161 (fun H locs hP hD hS => ?_)
                  have hP : va_P D vwCl [ar cI (mA 40) 40 (upd cP2 k (gPD_22 k)), ar cI (mA 41) 10 (upd cH2 (ix (fCR k)) ((cH2 (ix (fCR k))) + (gPD_22 k))), ar cI (mA 42) 10 cF1, ar cI (mA 43) 10 cO2, mo aM mA (nI nt) 0 td (nI nm) (nI np) isd ln rf rp sz nx kd wh pl rd (nI R_22) 1 (nI nm) (nI np) (nI R_22), ar cI (mA 19) 20 fRU, ar cI (mA 15) 40 fDY, ar cI (mA 14) 40 fLF, ar cI (mA 13) 40 fRK, ar cI (mA 30) 40 gOW_22, ar cI (mA 31) 40 gRS_22, ar cI (mA 32) 40 gPD_22, ar cI (mA 33) 40 gWS_22, ar cI (mA 34) 10 gFA_22, ar cI (mA 5) 10 fPU, ar cI (mA 8) 40 fCR, ar cI (mA 7) 40 fDB] H := hP
                  have hD : va_D A [ar cI (mA 40) 40 (upd cP2 k (gPD_22 k)), ar cI (mA 41) 10 (upd cH2 (ix (fCR k)) ((cH2 (ix (fCR k))) + (gPD_22 k))), ar cI (mA 42) 10 cF1, ar cI (mA 43) 10 cO2, mo aM mA (nI nt) 0 td (nI nm) (nI np) isd ln rf rp sz nx kd wh pl rd (nI R_22) 1 (nI nm) (nI np) (nI R_22), ar cI (mA 19) 20 fRU, ar cI (mA 15) 40 fDY, ar cI (mA 14) 40 fLF, ar cI (mA 13) 40 fRK, ar cI (mA 30) 40 gOW_22, ar cI (mA 31) 40 gRS_22, ar cI (mA 32) 40 gPD_22, ar cI (mA 33) 40 gWS_22, ar cI (mA 34) 10 gFA_22, ar cI (mA 5) 10 fPU, ar cI (mA 8) 40 fCR, ar cI (mA 7) 40 fDB] := hD
                  refine lv_aload_n hx hb dX8_clear_162 rfl (lv_at hl 0 rfl) ?_
                  refine va_get (D := D) (ci := 8) (v := .ref (mA 41)) (C := RX8) (T := TX8) (N := 44) hx hb hts inX8 hown hK hP 4 rfl rfl 41 (by decide) fl78 (fun _ h9 => h9) rfl dX8_clear_163 ?_
                  refine lv_aload_n hx hb dX8_clear_166 rfl (lv_at hl 0 rfl) ?_
                  refine va_get (D := D) (ci := 8) (v := .ref (mA 7)) (C := RX8) (T := TX8) (N := 44) hx hb hts inX8 hown hK hP 4 rfl rfl 7 (by decide) fl16 (fun _ h9 => h9) rfl dX8_clear_167 ?_
                  refine lv_iload_n hx hb dX8_clear_170 rfl (lv_at hl 3 rfl) ?_
                  refine m_iald (k := k) hx hb hK hP 16 0 rfl rfl (by omega) (by decide) dX8_clear_171 ?_
                  refine lv_dup2_11 hx hb dX8_clear_172 rfl rfl ?_
                  refine va_iald hx hb hK hP 1 0 rfl rfl (vp_wide (hdb k (by omega)) hnm) dX8_clear_173 ?_
                  refine lv_aload_n hx hb dX8_clear_174 rfl (lv_at hl 0 rfl) ?_
                  refine va_get (D := D) (ci := 8) (v := .ref (mA 32)) (C := RX8) (T := TX8) (N := 44) hx hb hts inX8 hown hK hP 4 rfl rfl 32 (by decide) fl66 (fun _ h9 => h9) rfl dX8_clear_175 ?_
                  refine lv_iload_n hx hb dX8_clear_178 rfl (lv_at hl 3 rfl) ?_
                  refine m_iald (k := k) hx hb hK hP 11 0 rfl rfl (by omega) (by decide) dX8_clear_179 ?_
                  refine lv_isub hx hb dX8_clear_180 ?_
                  refine va_iast (x := (((upd cH2 (ix (fCR k)) ((cH2 (ix (fCR k))) + (gPD_22 k))) (ix (fDB k))) - (gPD_22 k))) hx hb hK hP hD hS 1 0 rfl rfl (vp_wide (hdb k (by omega)) hnm) dX8_clear_181 (fun H locs hP hD hS => ?_)
                  have hP : va_P D vwCl [ar cI (mA 40) 40 (upd cP2 k (gPD_22 k)), ar cI (mA 41) 10 (upd (upd cH2 (ix (fCR k)) ((cH2 (ix (fCR k))) + (gPD_22 k))) (ix (fDB k)) (((upd cH2 (ix (fCR k)) ((cH2 (ix (fCR k))) + (gPD_22 k))) (ix (fDB k))) - (gPD_22 k))), ar cI (mA 42) 10 cF1, ar cI (mA 43) 10 cO2, mo aM mA (nI nt) 0 td (nI nm) (nI np) isd ln rf rp sz nx kd wh pl rd (nI R_22) 1 (nI nm) (nI np) (nI R_22), ar cI (mA 19) 20 fRU, ar cI (mA 15) 40 fDY, ar cI (mA 14) 40 fLF, ar cI (mA 13) 40 fRK, ar cI (mA 30) 40 gOW_22, ar cI (mA 31) 40 gRS_22, ar cI (mA 32) 40 gPD_22, ar cI (mA 33) 40 gWS_22, ar cI (mA 34) 10 gFA_22, ar cI (mA 5) 10 fPU, ar cI (mA 8) 40 fCR, ar cI (mA 7) 40 fDB] H := hP
                  have hD : va_D A [ar cI (mA 40) 40 (upd cP2 k (gPD_22 k)), ar cI (mA 41) 10 (upd (upd cH2 (ix (fCR k)) ((cH2 (ix (fCR k))) + (gPD_22 k))) (ix (fDB k)) (((upd cH2 (ix (fCR k)) ((cH2 (ix (fCR k))) + (gPD_22 k))) (ix (fDB k))) - (gPD_22 k))), ar cI (mA 42) 10 cF1, ar cI (mA 43) 10 cO2, mo aM mA (nI nt) 0 td (nI nm) (nI np) isd ln rf rp sz nx kd wh pl rd (nI R_22) 1 (nI nm) (nI np) (nI R_22), ar cI (mA 19) 20 fRU, ar cI (mA 15) 40 fDY, ar cI (mA 14) 40 fLF, ar cI (mA 13) 40 fRK, ar cI (mA 30) 40 gOW_22, ar cI (mA 31) 40 gRS_22, ar cI (mA 32) 40 gPD_22, ar cI (mA 33) 40 gWS_22, ar cI (mA 34) 10 gFA_22, ar cI (mA 5) 10 fPU, ar cI (mA 8) 40 fCR, ar cI (mA 7) 40 fDB] := hD
                  refine lv_aload_n hx hb dX8_clear_182 rfl (lv_at hl 0 rfl) ?_
                  refine va_get (D := D) (ci := 8) (v := .ref (mA 43)) (C := RX8) (T := TX8) (N := 44) hx hb hts inX8 hown hK hP 4 rfl rfl 43 (by decide) fl84 (fun _ h9 => h9) rfl dX8_clear_183 ?_
                  refine lv_aload_n hx hb dX8_clear_186 rfl (lv_at hl 0 rfl) ?_
                  refine va_get (D := D) (ci := 8) (v := .ref (mA 7)) (C := RX8) (T := TX8) (N := 44) hx hb hts inX8 hown hK hP 4 rfl rfl 7 (by decide) fl16 (fun _ h9 => h9) rfl dX8_clear_187 ?_
                  refine lv_iload_n hx hb dX8_clear_190 rfl (lv_at hl 3 rfl) ?_
                  refine m_iald (k := k) hx hb hK hP 16 0 rfl rfl (by omega) (by decide) dX8_clear_191 ?_
                  refine lv_dup2_11 hx hb dX8_clear_192 rfl rfl ?_
                  refine va_iald hx hb hK hP 3 0 rfl rfl (vp_wide (hdb k (by omega)) hnm) dX8_clear_193 ?_
                  refine lv_aload_n hx hb dX8_clear_194 rfl (lv_at hl 0 rfl) ?_
                  refine va_get (D := D) (ci := 8) (v := .ref (mA 30)) (C := RX8) (T := TX8) (N := 44) hx hb hts inX8 hown hK hP 4 rfl rfl 30 (by decide) fl60 (fun _ h9 => h9) rfl dX8_clear_195 ?_
                  refine lv_iload_n hx hb dX8_clear_198 rfl (lv_at hl 3 rfl) ?_
                  refine m_iald (k := k) hx hb hK hP 9 0 rfl rfl (by omega) (by decide) dX8_clear_199 ?_
                  refine lv_aload_n hx hb dX8_clear_200 rfl (lv_at hl 0 rfl) ?_
                  refine va_get (D := D) (ci := 8) (v := .ref (mA 32)) (C := RX8) (T := TX8) (N := 44) hx hb hts inX8 hown hK hP 4 rfl rfl 32 (by decide) fl66 (fun _ h9 => h9) rfl dX8_clear_201 ?_
                  refine lv_iload_n hx hb dX8_clear_204 rfl (lv_at hl 3 rfl) ?_
                  refine m_iald (k := k) hx hb hK hP 11 0 rfl rfl (by omega) (by decide) dX8_clear_205 ?_
                  refine lv_isub hx hb dX8_clear_206 ?_
                  refine lv_iadd hx hb dX8_clear_207 ?_
                  refine va_iast (x := ((cO2 (ix (fDB k))) + ((gOW_22 k) - (gPD_22 k)))) hx hb hK hP hD hS 3 0 rfl rfl (vp_wide (hdb k (by omega)) hnm) dX8_clear_208 (fun H locs hP hD hS => ?_)
                  have hP : va_P D vwCl [ar cI (mA 40) 40 (upd cP2 k (gPD_22 k)), ar cI (mA 41) 10 (upd (upd cH2 (ix (fCR k)) ((cH2 (ix (fCR k))) + (gPD_22 k))) (ix (fDB k)) (((upd cH2 (ix (fCR k)) ((cH2 (ix (fCR k))) + (gPD_22 k))) (ix (fDB k))) - (gPD_22 k))), ar cI (mA 42) 10 cF1, ar cI (mA 43) 10 (upd cO2 (ix (fDB k)) ((cO2 (ix (fDB k))) + ((gOW_22 k) - (gPD_22 k)))), mo aM mA (nI nt) 0 td (nI nm) (nI np) isd ln rf rp sz nx kd wh pl rd (nI R_22) 1 (nI nm) (nI np) (nI R_22), ar cI (mA 19) 20 fRU, ar cI (mA 15) 40 fDY, ar cI (mA 14) 40 fLF, ar cI (mA 13) 40 fRK, ar cI (mA 30) 40 gOW_22, ar cI (mA 31) 40 gRS_22, ar cI (mA 32) 40 gPD_22, ar cI (mA 33) 40 gWS_22, ar cI (mA 34) 10 gFA_22, ar cI (mA 5) 10 fPU, ar cI (mA 8) 40 fCR, ar cI (mA 7) 40 fDB] H := hP
                  have hD : va_D A [ar cI (mA 40) 40 (upd cP2 k (gPD_22 k)), ar cI (mA 41) 10 (upd (upd cH2 (ix (fCR k)) ((cH2 (ix (fCR k))) + (gPD_22 k))) (ix (fDB k)) (((upd cH2 (ix (fCR k)) ((cH2 (ix (fCR k))) + (gPD_22 k))) (ix (fDB k))) - (gPD_22 k))), ar cI (mA 42) 10 cF1, ar cI (mA 43) 10 (upd cO2 (ix (fDB k)) ((cO2 (ix (fDB k))) + ((gOW_22 k) - (gPD_22 k)))), mo aM mA (nI nt) 0 td (nI nm) (nI np) isd ln rf rp sz nx kd wh pl rd (nI R_22) 1 (nI nm) (nI np) (nI R_22), ar cI (mA 19) 20 fRU, ar cI (mA 15) 40 fDY, ar cI (mA 14) 40 fLF, ar cI (mA 13) 40 fRK, ar cI (mA 30) 40 gOW_22, ar cI (mA 31) 40 gRS_22, ar cI (mA 32) 40 gPD_22, ar cI (mA 33) 40 gWS_22, ar cI (mA 34) 10 gFA_22, ar cI (mA 5) 10 fPU, ar cI (mA 8) 40 fCR, ar cI (mA 7) 40 fDB] := hD
                  refine lv_iinc (v := (nI (k + 1))) (lv' := [(3, .int (nI (k + 1))), (0, .ref aM), (1, .int x), (2, .int n)]) hx hb dX8_clear_209 hl (k := 3) rfl (nI_inc k 1 (by decide)) (by decide) rfl (fun ls hl => ?_)
                  refine lv_goto (tgt := 122) hx hb dX8_clear_212 (by decide) ?_
                  exact ih_122 (k + 1) (upd cP2 k (gPD_22 k)) (upd (upd cH2 (ix (fCR k)) ((cH2 (ix (fCR k))) + (gPD_22 k))) (ix (fDB k)) (((upd cH2 (ix (fCR k)) ((cH2 (ix (fCR k))) + (gPD_22 k))) (ix (fDB k))) - (gPD_22 k))) (upd cO2 (ix (fDB k)) ((cO2 (ix (fDB k))) + ((gOW_22 k) - (gPD_22 k)))) (by omega) (by omega) (fil_step g1 rfl) (by rw [g2]; rfl) (by rw [g3]; rfl) _ _ (hP) (hD) hS ls (lv_sub hl [1, 2, 3, 0] rfl)
            exact L_122 ((np - 0) + 1) 0 fcP cH1 cO1 (Nat.lt_succ_self _) (by omega) (fil_0.symm) (rfl) (rfl) _ _ (hP) (hD) hS ls (lv_sub hl [1, 2, 3, 0] rfl)
          · skip
            have k_63 : ¬ nm ≤ j := fun h9 => c_63 ((nI_leI (a := nm) (b := j) (by omega) (by omega)).mpr h9)
            refine lv_aload_n hx hb dX8_clear_66 rfl (lv_at hl 0 rfl) ?_
            refine va_get (D := D) (ci := 8) (v := .ref (mA 41)) (C := RX8) (T := TX8) (N := 44) hx hb hts inX8 hown hK hP 4 rfl rfl 41 (by decide) fl78 (fun _ h9 => h9) rfl dX8_clear_67 ?_
            refine lv_iload_n hx hb dX8_clear_70 rfl (lv_at hl 3 rfl) ?_
            refine lv_aload_n hx hb dX8_clear_71 rfl (lv_at hl 0 rfl) ?_
            refine va_get (D := D) (ci := 8) (v := .ref (mA 5)) (C := RX8) (T := TX8) (N := 44) hx hb hts inX8 hown hK hP 4 rfl rfl 5 (by decide) fl13 (fun _ h9 => h9) rfl dX8_clear_72 ?_
            refine lv_iload_n hx hb dX8_clear_75 rfl (lv_at hl 3 rfl) ?_
            refine m_iald (k := j) hx hb hK hP 14 0 rfl rfl (by omega) (by decide) dX8_clear_76 ?_
            refine m_iast (k := j) (x := (fPU j)) hx hb hK hP hD hS 1 0 rfl rfl (by omega) (by decide) dX8_clear_77 (fun H locs hP hD hS => ?_)
            have hP : va_P D vwCl [ar cI (mA 40) 40 fcP, ar cI (mA 41) 10 (upd cH1 j (fPU j)), ar cI (mA 42) 10 cF1, ar cI (mA 43) 10 cO1, mo aM mA (nI nt) 0 td (nI nm) (nI np) isd ln rf rp sz nx kd wh pl rd (nI R_22) 1 (nI nm) (nI np) (nI R_22), ar cI (mA 19) 20 fRU, ar cI (mA 15) 40 fDY, ar cI (mA 14) 40 fLF, ar cI (mA 13) 40 fRK, ar cI (mA 30) 40 gOW_22, ar cI (mA 31) 40 gRS_22, ar cI (mA 32) 40 gPD_22, ar cI (mA 33) 40 gWS_22, ar cI (mA 34) 10 gFA_22, ar cI (mA 5) 10 fPU, ar cI (mA 8) 40 fCR, ar cI (mA 7) 40 fDB] H := hP
            have hD : va_D A [ar cI (mA 40) 40 fcP, ar cI (mA 41) 10 (upd cH1 j (fPU j)), ar cI (mA 42) 10 cF1, ar cI (mA 43) 10 cO1, mo aM mA (nI nt) 0 td (nI nm) (nI np) isd ln rf rp sz nx kd wh pl rd (nI R_22) 1 (nI nm) (nI np) (nI R_22), ar cI (mA 19) 20 fRU, ar cI (mA 15) 40 fDY, ar cI (mA 14) 40 fLF, ar cI (mA 13) 40 fRK, ar cI (mA 30) 40 gOW_22, ar cI (mA 31) 40 gRS_22, ar cI (mA 32) 40 gPD_22, ar cI (mA 33) 40 gWS_22, ar cI (mA 34) 10 gFA_22, ar cI (mA 5) 10 fPU, ar cI (mA 8) 40 fCR, ar cI (mA 7) 40 fDB] := hD
            refine lv_aload_n hx hb dX8_clear_78 rfl (lv_at hl 0 rfl) ?_
            refine va_get (D := D) (ci := 8) (v := .ref (mA 43)) (C := RX8) (T := TX8) (N := 44) hx hb hts inX8 hown hK hP 4 rfl rfl 43 (by decide) fl84 (fun _ h9 => h9) rfl dX8_clear_79 ?_
            refine lv_iload_n hx hb dX8_clear_82 rfl (lv_at hl 3 rfl) ?_
            refine lv_iconst (v := 0) hx hb dX8_clear_83 (by decide) ?_
            refine m_iast (k := j) (x := 0) hx hb hK hP hD hS 3 0 rfl rfl (by omega) (by decide) dX8_clear_84 (fun H locs hP hD hS => ?_)
            have hP : va_P D vwCl [ar cI (mA 40) 40 fcP, ar cI (mA 41) 10 (upd cH1 j (fPU j)), ar cI (mA 42) 10 cF1, ar cI (mA 43) 10 (upd cO1 j 0), mo aM mA (nI nt) 0 td (nI nm) (nI np) isd ln rf rp sz nx kd wh pl rd (nI R_22) 1 (nI nm) (nI np) (nI R_22), ar cI (mA 19) 20 fRU, ar cI (mA 15) 40 fDY, ar cI (mA 14) 40 fLF, ar cI (mA 13) 40 fRK, ar cI (mA 30) 40 gOW_22, ar cI (mA 31) 40 gRS_22, ar cI (mA 32) 40 gPD_22, ar cI (mA 33) 40 gWS_22, ar cI (mA 34) 10 gFA_22, ar cI (mA 5) 10 fPU, ar cI (mA 8) 40 fCR, ar cI (mA 7) 40 fDB] H := hP
            have hD : va_D A [ar cI (mA 40) 40 fcP, ar cI (mA 41) 10 (upd cH1 j (fPU j)), ar cI (mA 42) 10 cF1, ar cI (mA 43) 10 (upd cO1 j 0), mo aM mA (nI nt) 0 td (nI nm) (nI np) isd ln rf rp sz nx kd wh pl rd (nI R_22) 1 (nI nm) (nI np) (nI R_22), ar cI (mA 19) 20 fRU, ar cI (mA 15) 40 fDY, ar cI (mA 14) 40 fLF, ar cI (mA 13) 40 fRK, ar cI (mA 30) 40 gOW_22, ar cI (mA 31) 40 gRS_22, ar cI (mA 32) 40 gPD_22, ar cI (mA 33) 40 gWS_22, ar cI (mA 34) 10 gFA_22, ar cI (mA 5) 10 fPU, ar cI (mA 8) 40 fCR, ar cI (mA 7) 40 fDB] := hD
            refine lv_aload_n hx hb dX8_clear_85 rfl (lv_at hl 0 rfl) ?_
            refine va_get (D := D) (ci := 8) (v := .ref (mA 42)) (C := RX8) (T := TX8) (N := 44) hx hb hts inX8 hown hK hP 4 rfl rfl 42 (by decide) fl81 (fun _ h9 => h9) rfl dX8_clear_86 ?_
            refine lv_iload_n hx hb dX8_clear_89 rfl (lv_at hl 3 rfl) ?_
            refine lv_aload_n hx hb dX8_clear_90 rfl (lv_at hl 0 rfl) ?_
            refine va_get (D := D) (ci := 8) (v := .ref (mA 34)) (C := RX8) (T := TX8) (N := 44) hx hb hts inX8 hown hK hP 4 rfl rfl 34 (by decide) fl72 (fun _ h9 => h9) rfl dX8_clear_91 ?_
            refine lv_iload_n hx hb dX8_clear_94 rfl (lv_at hl 3 rfl) ?_
            refine m_iald (k := j) hx hb hK hP 13 0 rfl rfl (by omega) (by decide) dX8_clear_95 ?_
            refine m_iast (k := j) (x := (gFA_22 j)) hx hb hK hP hD hS 2 0 rfl rfl (by omega) (by decide) dX8_clear_96 (fun H locs hP hD hS => ?_)
            have hP : va_P D vwCl [ar cI (mA 40) 40 fcP, ar cI (mA 41) 10 (upd cH1 j (fPU j)), ar cI (mA 42) 10 (upd cF1 j (gFA_22 j)), ar cI (mA 43) 10 (upd cO1 j 0), mo aM mA (nI nt) 0 td (nI nm) (nI np) isd ln rf rp sz nx kd wh pl rd (nI R_22) 1 (nI nm) (nI np) (nI R_22), ar cI (mA 19) 20 fRU, ar cI (mA 15) 40 fDY, ar cI (mA 14) 40 fLF, ar cI (mA 13) 40 fRK, ar cI (mA 30) 40 gOW_22, ar cI (mA 31) 40 gRS_22, ar cI (mA 32) 40 gPD_22, ar cI (mA 33) 40 gWS_22, ar cI (mA 34) 10 gFA_22, ar cI (mA 5) 10 fPU, ar cI (mA 8) 40 fCR, ar cI (mA 7) 40 fDB] H := hP
            have hD : va_D A [ar cI (mA 40) 40 fcP, ar cI (mA 41) 10 (upd cH1 j (fPU j)), ar cI (mA 42) 10 (upd cF1 j (gFA_22 j)), ar cI (mA 43) 10 (upd cO1 j 0), mo aM mA (nI nt) 0 td (nI nm) (nI np) isd ln rf rp sz nx kd wh pl rd (nI R_22) 1 (nI nm) (nI np) (nI R_22), ar cI (mA 19) 20 fRU, ar cI (mA 15) 40 fDY, ar cI (mA 14) 40 fLF, ar cI (mA 13) 40 fRK, ar cI (mA 30) 40 gOW_22, ar cI (mA 31) 40 gRS_22, ar cI (mA 32) 40 gPD_22, ar cI (mA 33) 40 gWS_22, ar cI (mA 34) 10 gFA_22, ar cI (mA 5) 10 fPU, ar cI (mA 8) 40 fCR, ar cI (mA 7) 40 fDB] := hD
            refine lv_iload_n hx hb dX8_clear_97 rfl (lv_at hl 2 rfl) ?_
            refine lv_aload_n hx hb dX8_clear_98 rfl (lv_at hl 0 rfl) ?_
            refine va_get (D := D) (ci := 8) (v := .ref (mA 34)) (C := RX8) (T := TX8) (N := 44) hx hb hts inX8 hown hK hP 4 rfl rfl 34 (by decide) fl72 (fun _ h9 => h9) rfl dX8_clear_99 ?_
            refine lv_iload_n hx hb dX8_clear_102 rfl (lv_at hl 3 rfl) ?_
            refine m_iald (k := j) hx hb hK hP 13 0 rfl rfl (by omega) (by decide) dX8_clear_103 ?_
            refine lv_if_le (tgt := 111) hx hb dX8_clear_104 (by decide) (fun c_104 => ?_) (fun c_104 => ?_)
            · skip
              refine lv_iconst (v := 0) hx hb dX8_clear_111 (by decide) ?_
              refine lv_iadd hx hb dX8_clear_112 ?_
              refine lv_istore_n (lv' := [(2, .int (n + 0)), (0, .ref aM), (1, .int x), (3, .int (nI j))]) hx hb dX8_clear_113 rfl hl (by decide) rfl (fun ls hl => ?_)
              refine lv_iinc (v := (nI (j + 1))) (lv' := [(3, .int (nI (j + 1))), (2, .int (n + 0)), (0, .ref aM), (1, .int x)]) hx hb dX8_clear_114 hl (k := 3) rfl (nI_inc j 1 (by decide)) (by decide) rfl (fun ls hl => ?_)
              refine lv_goto (tgt := 58) hx hb dX8_clear_117 (by decide) ?_
              exact ih_58 (j + 1) (n + 0) (upd cH1 j (fPU j)) (upd cO1 j 0) (upd cF1 j (gFA_22 j)) (by omega) (by omega) (by rw [hn]; exact cnt_step (by rw [w5.2 j (by omega)]; exact failR_pos (by omega)) (by first | exact Or.inl ⟨c_104, rfl⟩ | exact Or.inr ⟨c_104, rfl⟩)) (fil_step f1 rfl) (fil_step f2 rfl) (fil_step f3 rfl) _ _ (hP) (hD) hS ls (lv_sub hl [2, 3, 1, 0] rfl)
            · skip
              refine lv_iconst (v := 1) hx hb dX8_clear_107 (by decide) ?_
              refine lv_goto (tgt := 112) hx hb dX8_clear_108 (by decide) ?_
              refine lv_iadd hx hb dX8_clear_112 ?_
              refine lv_istore_n (lv' := [(2, .int (n + 1)), (0, .ref aM), (1, .int x), (3, .int (nI j))]) hx hb dX8_clear_113 rfl hl (by decide) rfl (fun ls hl => ?_)
              refine lv_iinc (v := (nI (j + 1))) (lv' := [(3, .int (nI (j + 1))), (2, .int (n + 1)), (0, .ref aM), (1, .int x)]) hx hb dX8_clear_114 hl (k := 3) rfl (nI_inc j 1 (by decide)) (by decide) rfl (fun ls hl => ?_)
              refine lv_goto (tgt := 58) hx hb dX8_clear_117 (by decide) ?_
              exact ih_58 (j + 1) (n + 1) (upd cH1 j (fPU j)) (upd cO1 j 0) (upd cF1 j (gFA_22 j)) (by omega) (by omega) (by rw [hn]; exact cnt_step (by rw [w5.2 j (by omega)]; exact failR_pos (by omega)) (by first | exact Or.inl ⟨c_104, rfl⟩ | exact Or.inr ⟨c_104, rfl⟩)) (fil_step f1 rfl) (fil_step f2 rfl) (fil_step f3 rfl) _ _ (hP) (hD) hS ls (lv_sub hl [2, 3, 1, 0] rfl)
      exact L_58 ((nm - 0) + 1) 0 0 fcH fcO fcF (Nat.lt_succ_self _) (by omega) (rfl) (fil_0.symm) (fil_0.symm) (fil_0.symm) _ _ (hP) (hD) hS ls (lv_sub hl [2, 3, 1, 0] rfl)
    · skip
      refine lv_iconst (v := 1) hx hb dX8_clear_17 (by decide) ?_
      refine lv_goto (tgt := 22) hx hb dX8_clear_18 (by decide) ?_
      refine m_cVv (As := [.int 1]) (rest := []) (wr := [ar cI (mA 40) 40 fcP, ar cI (mA 41) 10 fcH, ar cI (mA 42) 10 fcF, ar cI (mA 43) 10 fcO]) ⟨hx, hb, hml, hown, hts⟩ (c_X8_works l D cI cZ aM mA nt 0 td nm np isd ln rf rp sz nx kd wh pl rd rn ic mcm mcp mcr fRU fDY fLF fRK fOW fRS fPD fWS fFA fPU fCR fDB 1 (by first | assumption | omega) (fun k hk => (by rw [if_neg (by decide)]; exact (HDm c_14).1 k hk)) (by rw [if_neg (by decide)]; exact (HDm c_14).2)) (cwV 1 hts gX8_clear_X8_works rfl rfl rfl (by decide +kernel) ⟨Nat.le_of_ble_eq_true rfl, Nat.le_of_ble_eq_true rfl⟩) hN hK hP hD hS hA [0, 1, 2, 3, 4, 5, 6, 7, 8, 9, 10, 11, 12] [13, 14, 15, 16] rfl rfl (by decide) (by decide) (by decide) 0 (ci := 8) rfl rfl rfl rfl hl.1 rfl (Nat.le_of_ble_eq_true rfl) dX8_clear_22 ⟨Nat.le_of_ble_eq_true rfl, Nat.le_of_ble_eq_true rfl⟩ (fun u_22 H locs hq_22 hP hD hS => ?_)
      obtain ⟨gOW_22, gRS_22, gPD_22, gWS_22, gFA_22, R_22⟩ := u_22
      replace hq_22 : gOW_22 = fil (if 1 = 0 then fLF else fun j => mLeft fRU (fLF j) (fRK j) (fDY j)) fOW np ∧ gRS_22 = fil (if 1 = 0 then fRK else fun j => mRank fRU (fRK j) (fDY j)) fRS np ∧ isR nm (TRF fDB fCR (owG gOW_22 np) (odF gRS_22 np) np (fun m => (fPU m).toInt)) R_22 ∧ R_22 ≤ 39960 ∧ MSt np nm fDB (odF gRS_22 np) (owG gOW_22 np) ((TRF fDB fCR (owG gOW_22 np) (odF gRS_22 np) np (fun m => (fPU m).toInt)) R_22) (fun m => failR (TRF fDB fCR (owG gOW_22 np) (odF gRS_22 np) np (fun m => (fPU m).toInt)) m R_22) gPD_22 gFA_22 := hq_22
      have hP : va_P D vwCl [ar cI (mA 40) 40 fcP, ar cI (mA 41) 10 fcH, ar cI (mA 42) 10 fcF, ar cI (mA 43) 10 fcO, mo aM mA (nI nt) 0 td (nI nm) (nI np) isd ln rf rp sz nx kd wh pl rd (nI R_22) ic mcm mcp mcr, ar cI (mA 19) 20 fRU, ar cI (mA 15) 40 fDY, ar cI (mA 14) 40 fLF, ar cI (mA 13) 40 fRK, ar cI (mA 30) 40 gOW_22, ar cI (mA 31) 40 gRS_22, ar cI (mA 32) 40 gPD_22, ar cI (mA 33) 40 gWS_22, ar cI (mA 34) 10 gFA_22, ar cI (mA 5) 10 fPU, ar cI (mA 8) 40 fCR, ar cI (mA 7) 40 fDB] H := hP
      have hD : va_D A [ar cI (mA 40) 40 fcP, ar cI (mA 41) 10 fcH, ar cI (mA 42) 10 fcF, ar cI (mA 43) 10 fcO, mo aM mA (nI nt) 0 td (nI nm) (nI np) isd ln rf rp sz nx kd wh pl rd (nI R_22) ic mcm mcp mcr, ar cI (mA 19) 20 fRU, ar cI (mA 15) 40 fDY, ar cI (mA 14) 40 fLF, ar cI (mA 13) 40 fRK, ar cI (mA 30) 40 gOW_22, ar cI (mA 31) 40 gRS_22, ar cI (mA 32) 40 gPD_22, ar cI (mA 33) 40 gWS_22, ar cI (mA 34) 10 gFA_22, ar cI (mA 5) 10 fPU, ar cI (mA 8) 40 fCR, ar cI (mA 7) 40 fDB] := hD
      obtain ⟨w1, w2, w3, w4, w5⟩ := hq_22
      rw [if_neg (by decide)] at w1 w2
      have hOW : ∀ j, j < np → gOW_22 j = (fun j => mLeft fRU (fLF j) (fRK j) (fDY j)) j := (fun j hj => by rw [w1]; simp only [fil, if_pos hj])
      have hRS : ∀ j, j < np → gRS_22 j = (fun j => mRank fRU (fRK j) (fDY j)) j := (fun j hj => by rw [w2]; simp only [fil, if_pos hj])
      have hro1 : rkOk gRS_22 np := (fun j hj => by rw [hRS j hj]; exact ((HDm c_14).2) j hj)
      have how1 : ∀ j, j < np → 0 ≤ (gOW_22 j).toInt ∧ (gOW_22 j).toInt ≤ 999 := (fun j hj => by rw [hOW j hj]; exact ((HDm c_14).1) j hj)
      have HC := clcM_ok HP hro1 how1
      have hpd := MSt_pd HC hro1 w5
      have hcond : ¬ x = 0 ∧ ¬ isd = 0 := ⟨c_7, c_14⟩
      refine lv_aload_n hx hb dX8_clear_25 rfl (lv_at hl 0 rfl) ?_
      refine lv_iconst (v := 1) hx hb dX8_clear_26 (by decide) ?_
      refine va_put (D := D) (ci := 8) (v := .int 1) (ty := .boolean) (C := RX8) (T := TX8) (N := 44) hx hb hts inX8 tyX8 tyX8_ok nmX8 hown hK hP hD hS 4 rfl rfl 36 (by decide) fl186 (fun _ h9 => h9) rfl (by decide +kernel) (rfl) (rfl) (Nat.le_of_ble_eq_true rfl) dX8_clear_27 (fun H locs hP hD hS => ?_)
      have hP : va_P D vwCl [ar cI (mA 40) 40 fcP, ar cI (mA 41) 10 fcH, ar cI (mA 42) 10 fcF, ar cI (mA 43) 10 fcO, mo aM mA (nI nt) 0 td (nI nm) (nI np) isd ln rf rp sz nx kd wh pl rd (nI R_22) 1 mcm mcp mcr, ar cI (mA 19) 20 fRU, ar cI (mA 15) 40 fDY, ar cI (mA 14) 40 fLF, ar cI (mA 13) 40 fRK, ar cI (mA 30) 40 gOW_22, ar cI (mA 31) 40 gRS_22, ar cI (mA 32) 40 gPD_22, ar cI (mA 33) 40 gWS_22, ar cI (mA 34) 10 gFA_22, ar cI (mA 5) 10 fPU, ar cI (mA 8) 40 fCR, ar cI (mA 7) 40 fDB] H := hP
      have hD : va_D A [ar cI (mA 40) 40 fcP, ar cI (mA 41) 10 fcH, ar cI (mA 42) 10 fcF, ar cI (mA 43) 10 fcO, mo aM mA (nI nt) 0 td (nI nm) (nI np) isd ln rf rp sz nx kd wh pl rd (nI R_22) 1 mcm mcp mcr, ar cI (mA 19) 20 fRU, ar cI (mA 15) 40 fDY, ar cI (mA 14) 40 fLF, ar cI (mA 13) 40 fRK, ar cI (mA 30) 40 gOW_22, ar cI (mA 31) 40 gRS_22, ar cI (mA 32) 40 gPD_22, ar cI (mA 33) 40 gWS_22, ar cI (mA 34) 10 gFA_22, ar cI (mA 5) 10 fPU, ar cI (mA 8) 40 fCR, ar cI (mA 7) 40 fDB] := hD
      refine lv_aload_n hx hb dX8_clear_30 rfl (lv_at hl 0 rfl) ?_
      refine lv_aload_n hx hb dX8_clear_31 rfl (lv_at hl 0 rfl) ?_
      refine va_get (D := D) (ci := 8) (v := .int (nI nm)) (C := RX8) (T := TX8) (N := 44) hx hb hts inX8 hown hK hP 4 rfl rfl 4 (by decide) fl94 (fun _ h9 => h9) rfl dX8_clear_32 ?_
      refine va_put (D := D) (ci := 8) (v := .int (nI nm)) (ty := .int) (C := RX8) (T := TX8) (N := 44) hx hb hts inX8 tyX8 tyX8_ok nmX8 hown hK hP hD hS 4 rfl rfl 37 (by decide) fl189 (fun _ h9 => h9) rfl (by decide +kernel) (rfl) (rfl) (Nat.le_of_ble_eq_true rfl) dX8_clear_35 (fun H locs hP hD hS => ?_)
      have hP : va_P D vwCl [ar cI (mA 40) 40 fcP, ar cI (mA 41) 10 fcH, ar cI (mA 42) 10 fcF, ar cI (mA 43) 10 fcO, mo aM mA (nI nt) 0 td (nI nm) (nI np) isd ln rf rp sz nx kd wh pl rd (nI R_22) 1 (nI nm) mcp mcr, ar cI (mA 19) 20 fRU, ar cI (mA 15) 40 fDY, ar cI (mA 14) 40 fLF, ar cI (mA 13) 40 fRK, ar cI (mA 30) 40 gOW_22, ar cI (mA 31) 40 gRS_22, ar cI (mA 32) 40 gPD_22, ar cI (mA 33) 40 gWS_22, ar cI (mA 34) 10 gFA_22, ar cI (mA 5) 10 fPU, ar cI (mA 8) 40 fCR, ar cI (mA 7) 40 fDB] H := hP
      have hD : va_D A [ar cI (mA 40) 40 fcP, ar cI (mA 41) 10 fcH, ar cI (mA 42) 10 fcF, ar cI (mA 43) 10 fcO, mo aM mA (nI nt) 0 td (nI nm) (nI np) isd ln rf rp sz nx kd wh pl rd (nI R_22) 1 (nI nm) mcp mcr, ar cI (mA 19) 20 fRU, ar cI (mA 15) 40 fDY, ar cI (mA 14) 40 fLF, ar cI (mA 13) 40 fRK, ar cI (mA 30) 40 gOW_22, ar cI (mA 31) 40 gRS_22, ar cI (mA 32) 40 gPD_22, ar cI (mA 33) 40 gWS_22, ar cI (mA 34) 10 gFA_22, ar cI (mA 5) 10 fPU, ar cI (mA 8) 40 fCR, ar cI (mA 7) 40 fDB] := hD
      refine lv_aload_n hx hb dX8_clear_38 rfl (lv_at hl 0 rfl) ?_
      refine lv_aload_n hx hb dX8_clear_39 rfl (lv_at hl 0 rfl) ?_
      refine va_get (D := D) (ci := 8) (v := .int (nI np)) (C := RX8) (T := TX8) (N := 44) hx hb hts inX8 hown hK hP 4 rfl rfl 6 (by decide) fl101 (fun _ h9 => h9) rfl dX8_clear_40 ?_
      refine va_put (D := D) (ci := 8) (v := .int (nI np)) (ty := .int) (C := RX8) (T := TX8) (N := 44) hx hb hts inX8 tyX8 tyX8_ok nmX8 hown hK hP hD hS 4 rfl rfl 38 (by decide) fl192 (fun _ h9 => h9) rfl (by decide +kernel) (rfl) (rfl) (Nat.le_of_ble_eq_true rfl) dX8_clear_43 (fun H locs hP hD hS => ?_)
      have hP : va_P D vwCl [ar cI (mA 40) 40 fcP, ar cI (mA 41) 10 fcH, ar cI (mA 42) 10 fcF, ar cI (mA 43) 10 fcO, mo aM mA (nI nt) 0 td (nI nm) (nI np) isd ln rf rp sz nx kd wh pl rd (nI R_22) 1 (nI nm) (nI np) mcr, ar cI (mA 19) 20 fRU, ar cI (mA 15) 40 fDY, ar cI (mA 14) 40 fLF, ar cI (mA 13) 40 fRK, ar cI (mA 30) 40 gOW_22, ar cI (mA 31) 40 gRS_22, ar cI (mA 32) 40 gPD_22, ar cI (mA 33) 40 gWS_22, ar cI (mA 34) 10 gFA_22, ar cI (mA 5) 10 fPU, ar cI (mA 8) 40 fCR, ar cI (mA 7) 40 fDB] H := hP
      have hD : va_D A [ar cI (mA 40) 40 fcP, ar cI (mA 41) 10 fcH, ar cI (mA 42) 10 fcF, ar cI (mA 43) 10 fcO, mo aM mA (nI nt) 0 td (nI nm) (nI np) isd ln rf rp sz nx kd wh pl rd (nI R_22) 1 (nI nm) (nI np) mcr, ar cI (mA 19) 20 fRU, ar cI (mA 15) 40 fDY, ar cI (mA 14) 40 fLF, ar cI (mA 13) 40 fRK, ar cI (mA 30) 40 gOW_22, ar cI (mA 31) 40 gRS_22, ar cI (mA 32) 40 gPD_22, ar cI (mA 33) 40 gWS_22, ar cI (mA 34) 10 gFA_22, ar cI (mA 5) 10 fPU, ar cI (mA 8) 40 fCR, ar cI (mA 7) 40 fDB] := hD
      refine lv_aload_n hx hb dX8_clear_46 rfl (lv_at hl 0 rfl) ?_
      refine lv_aload_n hx hb dX8_clear_47 rfl (lv_at hl 0 rfl) ?_
      refine va_get (D := D) (ci := 8) (v := .int (nI R_22)) (C := RX8) (T := TX8) (N := 44) hx hb hts inX8 hown hK hP 4 rfl rfl 35 (by decide) fl176 (fun _ h9 => h9) rfl dX8_clear_48 ?_
      refine va_put (D := D) (ci := 8) (v := .int (nI R_22)) (ty := .int) (C := RX8) (T := TX8) (N := 44) hx hb hts inX8 tyX8 tyX8_ok nmX8 hown hK hP hD hS 4 rfl rfl 39 (by decide) fl195 (fun _ h9 => h9) rfl (by decide +kernel) (rfl) (rfl) (Nat.le_of_ble_eq_true rfl) dX8_clear_51 (fun H locs hP hD hS => ?_)
      have hP : va_P D vwCl [ar cI (mA 40) 40 fcP, ar cI (mA 41) 10 fcH, ar cI (mA 42) 10 fcF, ar cI (mA 43) 10 fcO, mo aM mA (nI nt) 0 td (nI nm) (nI np) isd ln rf rp sz nx kd wh pl rd (nI R_22) 1 (nI nm) (nI np) (nI R_22), ar cI (mA 19) 20 fRU, ar cI (mA 15) 40 fDY, ar cI (mA 14) 40 fLF, ar cI (mA 13) 40 fRK, ar cI (mA 30) 40 gOW_22, ar cI (mA 31) 40 gRS_22, ar cI (mA 32) 40 gPD_22, ar cI (mA 33) 40 gWS_22, ar cI (mA 34) 10 gFA_22, ar cI (mA 5) 10 fPU, ar cI (mA 8) 40 fCR, ar cI (mA 7) 40 fDB] H := hP
      have hD : va_D A [ar cI (mA 40) 40 fcP, ar cI (mA 41) 10 fcH, ar cI (mA 42) 10 fcF, ar cI (mA 43) 10 fcO, mo aM mA (nI nt) 0 td (nI nm) (nI np) isd ln rf rp sz nx kd wh pl rd (nI R_22) 1 (nI nm) (nI np) (nI R_22), ar cI (mA 19) 20 fRU, ar cI (mA 15) 40 fDY, ar cI (mA 14) 40 fLF, ar cI (mA 13) 40 fRK, ar cI (mA 30) 40 gOW_22, ar cI (mA 31) 40 gRS_22, ar cI (mA 32) 40 gPD_22, ar cI (mA 33) 40 gWS_22, ar cI (mA 34) 10 gFA_22, ar cI (mA 5) 10 fPU, ar cI (mA 8) 40 fCR, ar cI (mA 7) 40 fDB] := hD
      refine lv_iconst (v := 0) hx hb dX8_clear_54 (by decide) ?_
      refine lv_istore_n (lv' := [(2, .int 0), (0, .ref aM), (1, .int x)]) hx hb dX8_clear_55 rfl hl (by decide) rfl (fun ls hl => ?_)
      refine lv_iconst (v := 0) hx hb dX8_clear_56 (by decide) ?_
      refine lv_istore_n (lv' := [(3, .int 0), (2, .int 0), (0, .ref aM), (1, .int x)]) hx hb dX8_clear_57 rfl hl (by decide) rfl (fun ls hl => ?_)
      have L_58 : ∀ (n_58 : Nat) (j : Nat) (n : Int32) (cH1 : Nat → Int32) (cO1 : Nat → Int32) (cF1 : Nat → Int32), (nm - j < n_58) → (j ≤ nm) → (n = cntF gFA_22 j) → (cH1 = fil fPU fcH j) → (cO1 = fil (fun _ => 0) fcO j) → (cF1 = fil gFA_22 fcF j) → ∀ (H : Heap) (locs : List Loc), va_P D vwCl [ar cI (mA 40) 40 fcP, ar cI (mA 41) 10 cH1, ar cI (mA 42) 10 cF1, ar cI (mA 43) 10 cO1, mo aM mA (nI nt) 0 td (nI nm) (nI np) isd ln rf rp sz nx kd wh pl rd (nI R_22) 1 (nI nm) (nI np) (nI R_22), ar cI (mA 19) 20 fRU, ar cI (mA 15) 40 fDY, ar cI (mA 14) 40 fLF, ar cI (mA 13) 40 fRK, ar cI (mA 30) 40 gOW_22, ar cI (mA 31) 40 gRS_22, ar cI (mA 32) 40 gPD_22, ar cI (mA 33) 40 gWS_22, ar cI (mA 34) 10 gFA_22, ar cI (mA 5) 10 fPU, ar cI (mA 8) 40 fCR, ar cI (mA 7) 40 fDB] H → va_D A [ar cI (mA 40) 40 fcP, ar cI (mA 41) 10 cH1, ar cI (mA 42) 10 cF1, ar cI (mA 43) 10 cO1, mo aM mA (nI nt) 0 td (nI nm) (nI np) isd ln rf rp sz nx kd wh pl rd (nI R_22) 1 (nI nm) (nI np) (nI R_22), ar cI (mA 19) 20 fRU, ar cI (mA 15) 40 fDY, ar cI (mA 14) 40 fLF, ar cI (mA 13) 40 fRK, ar cI (mA 30) 40 gOW_22, ar cI (mA 31) 40 gRS_22, ar cI (mA 32) 40 gPD_22, ar cI (mA 33) 40 gWS_22, ar cI (mA 34) 10 gFA_22, ar cI (mA 5) 10 fPU, ar cI (mA 8) 40 fCR, ar cI (mA 7) 40 fDB] → va_S A s.heap H locs → ∀ ls : Array Slot, lv_has ls 4 [(0, .ref aM), (1, .int x), (2, .int n), (3, .int (nI j))] → W p l e r_c_X8_clear s m (([.ref aM, .int x] : List Value).toArray) below meth c H locs 0 0 Q (F0 m 58 ls []) := by
        intro n_58
        induction n_58 with
        | zero => intro j n cH1 cO1 cF1 hfu; exact absurd hfu (Nat.not_lt_zero _)
        | succ n_58 ih_58 =>
          intro j n cH1 cO1 cF1 hfu_58 hj hn f1 f2 f3 H locs hP hD hS ls hl
          refine lv_iload_n hx hb dX8_clear_58 rfl (lv_at hl 3 rfl) ?_
          refine lv_aload_n hx hb dX8_clear_59 rfl (lv_at hl 0 rfl) ?_
          refine va_get (D := D) (ci := 8) (v := .int (nI nm)) (C := RX8) (T := TX8) (N := 44) hx hb hts inX8 hown hK hP 4 rfl rfl 4 (by decide) fl94 (fun _ h9 => h9) rfl dX8_clear_60 ?_
          refine lv_icmp_ge (tgt := 120) hx hb dX8_clear_63 (by decide) (fun c_63 => ?_) (fun c_63 => ?_)
          · skip
            have k_63 : nm ≤ j := (nI_leI (a := nm) (b := j) (by omega) (by omega)).mp c_63
            refine lv_iconst (v := 0) hx hb dX8_clear_120 (by decide) ?_
            refine lv_istore_n (lv' := [(3, .int 0), (0, .ref aM), (1, .int x), (2, .int n)]) hx hb dX8_clear_121 rfl hl (by decide) rfl (fun ls hl => ?_)
            have L_122 : ∀ (n_122 : Nat) (k : Nat) (cP2 : Nat → Int32) (cH2 : Nat → Int32) (cO2 : Nat → Int32), (np - k < n_122) → (k ≤ np) → (cP2 = fil gPD_22 fcP k) → (cH2 = hasM gPD_22 (dbN fDB) (dbN fCR) cH1 k) → (cO2 = oweM gOW_22 gPD_22 (dbN fDB) cO1 k) → ∀ (H : Heap) (locs : List Loc), va_P D vwCl [ar cI (mA 40) 40 cP2, ar cI (mA 41) 10 cH2, ar cI (mA 42) 10 cF1, ar cI (mA 43) 10 cO2, mo aM mA (nI nt) 0 td (nI nm) (nI np) isd ln rf rp sz nx kd wh pl rd (nI R_22) 1 (nI nm) (nI np) (nI R_22), ar cI (mA 19) 20 fRU, ar cI (mA 15) 40 fDY, ar cI (mA 14) 40 fLF, ar cI (mA 13) 40 fRK, ar cI (mA 30) 40 gOW_22, ar cI (mA 31) 40 gRS_22, ar cI (mA 32) 40 gPD_22, ar cI (mA 33) 40 gWS_22, ar cI (mA 34) 10 gFA_22, ar cI (mA 5) 10 fPU, ar cI (mA 8) 40 fCR, ar cI (mA 7) 40 fDB] H → va_D A [ar cI (mA 40) 40 cP2, ar cI (mA 41) 10 cH2, ar cI (mA 42) 10 cF1, ar cI (mA 43) 10 cO2, mo aM mA (nI nt) 0 td (nI nm) (nI np) isd ln rf rp sz nx kd wh pl rd (nI R_22) 1 (nI nm) (nI np) (nI R_22), ar cI (mA 19) 20 fRU, ar cI (mA 15) 40 fDY, ar cI (mA 14) 40 fLF, ar cI (mA 13) 40 fRK, ar cI (mA 30) 40 gOW_22, ar cI (mA 31) 40 gRS_22, ar cI (mA 32) 40 gPD_22, ar cI (mA 33) 40 gWS_22, ar cI (mA 34) 10 gFA_22, ar cI (mA 5) 10 fPU, ar cI (mA 8) 40 fCR, ar cI (mA 7) 40 fDB] → va_S A s.heap H locs → ∀ ls : Array Slot, lv_has ls 4 [(0, .ref aM), (1, .int x), (2, .int n), (3, .int (nI k))] → W p l e r_c_X8_clear s m (([.ref aM, .int x] : List Value).toArray) below meth c H locs 0 0 Q (F0 m 122 ls []) := by
              intro n_122
              induction n_122 with
              | zero => intro k cP2 cH2 cO2 hfu; exact absurd hfu (Nat.not_lt_zero _)
              | succ n_122 ih_122 =>
                intro k cP2 cH2 cO2 hfu_122 hk g1 g2 g3 H locs hP hD hS ls hl
                refine lv_iload_n hx hb dX8_clear_122 rfl (lv_at hl 3 rfl) ?_
                refine lv_aload_n hx hb dX8_clear_123 rfl (lv_at hl 0 rfl) ?_
                refine va_get (D := D) (ci := 8) (v := .int (nI np)) (C := RX8) (T := TX8) (N := 44) hx hb hts inX8 hown hK hP 4 rfl rfl 6 (by decide) fl101 (fun _ h9 => h9) rfl dX8_clear_124 ?_
                refine lv_icmp_ge (tgt := 215) hx hb dX8_clear_127 (by decide) (fun c_127 => ?_) (fun c_127 => ?_)
                · skip
                  have k_127 : np ≤ k := (nI_leI (a := np) (b := k) (by omega) (by omega)).mp c_127
                  refine lv_iload_n hx hb dX8_clear_215 rfl (lv_at hl 2 rfl) ?_
                  have ej : j = nm := (by omega)
                  have ek : k = np := (by omega)
                  rw [ej] at hn f1 f2 f3
                  rw [ek] at g1 g2 g3
                  have hF : ∀ m, m < nm → cF1 m = gFA_22 m := (fun m hm => by rw [f3]; simp only [fil, if_pos hm])
                  have hPP : ∀ q, q < np → cP2 q = gPD_22 q := (fun q hq => by rw [g1]; simp only [fil, if_pos hq])
                  have hH : ∀ m, m < nm → (cH2 m).toInt = (fPU m).toInt + pS (fun k => (gPD_22 k).toInt) (dbN fCR) m np - pS (fun k => (gPD_22 k).toInt) (dbN fDB) m np := (fun m hm => by rw [g2, hasM_val hnp (fun q hq => ⟨(hpd q hq).1, by have := hpd q hq; omega⟩) (fun u hu => by rw [f1]; simp only [fil, if_pos hu]; exact HP.2.2.2.2.2.2 u hu) np (Nat.le_refl _) m hm, f1]; simp only [fil, if_pos hm])
                  have hO : ∀ m, m < nm → (cO2 m).toInt = pS (fun k => (gOW_22 k).toInt) (dbN fDB) m np - pS (fun k => (gPD_22 k).toInt) (dbN fDB) m np := (fun m hm => by rw [g3, oweM_val hnp hpd (fun u hu => by rw [f2]; simp only [fil, if_pos hu]; exact ti0) np (Nat.le_refl _) m hm])
                  have hres := clearRes_M HC hro1 w3 w4 w5 hH hO
                  exact ret n (gOW_22, gRS_22, gPD_22, gWS_22, gFA_22, cP2, cH2, cF1, cO2, R_22) _ _ _ _ dX8_clear_216 (⟨by rw [hn]; exact cntF_congr (fun m hm => (hF m hm).symm), ClearRes_out hPP hF (by first | (rw [if_pos hcond, if_pos hcond]; exact ClearRes_congr hOW hRS hres) | (rw [if_neg hcond, if_neg hcond]; exact ClearRes_congr hOW hRS hres))⟩) (hP.sub [4, 5, 6, 7, 8, 9, 10, 11, 12, 13, 14, 15, 16, 0, 1, 2, 3] rfl) (hD.sub [4, 5, 6, 7, 8, 9, 10, 11, 12, 13, 14, 15, 16, 0, 1, 2, 3] (by decide) rfl) hS
                · skip
                  have k_127 : ¬ np ≤ k := fun h9 => c_127 ((nI_leI (a := np) (b := k) (by omega) (by omega)).mpr h9)
                  refine lv_aload_n hx hb dX8_clear_130 rfl (lv_at hl 0 rfl) ?_
                  refine va_get (D := D) (ci := 8) (v := .ref (mA 40)) (C := RX8) (T := TX8) (N := 44) hx hb hts inX8 hown hK hP 4 rfl rfl 40 (by decide) fl75 (fun _ h9 => h9) rfl dX8_clear_131 ?_
                  refine lv_iload_n hx hb dX8_clear_134 rfl (lv_at hl 3 rfl) ?_
                  refine lv_aload_n hx hb dX8_clear_135 rfl (lv_at hl 0 rfl) ?_
                  refine va_get (D := D) (ci := 8) (v := .ref (mA 32)) (C := RX8) (T := TX8) (N := 44) hx hb hts inX8 hown hK hP 4 rfl rfl 32 (by decide) fl66 (fun _ h9 => h9) rfl dX8_clear_136 ?_
                  refine lv_iload_n hx hb dX8_clear_139 rfl (lv_at hl 3 rfl) ?_
                  refine m_iald (k := k) hx hb hK hP 11 0 rfl rfl (by omega) (by decide) dX8_clear_140 ?_
                  refine m_iast (k := k) (x := (gPD_22 k)) hx hb hK hP hD hS 0 0 rfl rfl (by omega) (by decide) dX8_clear_141 (fun H locs hP hD hS => ?_)
                  have hP : va_P D vwCl [ar cI (mA 40) 40 (upd cP2 k (gPD_22 k)), ar cI (mA 41) 10 cH2, ar cI (mA 42) 10 cF1, ar cI (mA 43) 10 cO2, mo aM mA (nI nt) 0 td (nI nm) (nI np) isd ln rf rp sz nx kd wh pl rd (nI R_22) 1 (nI nm) (nI np) (nI R_22), ar cI (mA 19) 20 fRU, ar cI (mA 15) 40 fDY, ar cI (mA 14) 40 fLF, ar cI (mA 13) 40 fRK, ar cI (mA 30) 40 gOW_22, ar cI (mA 31) 40 gRS_22, ar cI (mA 32) 40 gPD_22, ar cI (mA 33) 40 gWS_22, ar cI (mA 34) 10 gFA_22, ar cI (mA 5) 10 fPU, ar cI (mA 8) 40 fCR, ar cI (mA 7) 40 fDB] H := hP
                  have hD : va_D A [ar cI (mA 40) 40 (upd cP2 k (gPD_22 k)), ar cI (mA 41) 10 cH2, ar cI (mA 42) 10 cF1, ar cI (mA 43) 10 cO2, mo aM mA (nI nt) 0 td (nI nm) (nI np) isd ln rf rp sz nx kd wh pl rd (nI R_22) 1 (nI nm) (nI np) (nI R_22), ar cI (mA 19) 20 fRU, ar cI (mA 15) 40 fDY, ar cI (mA 14) 40 fLF, ar cI (mA 13) 40 fRK, ar cI (mA 30) 40 gOW_22, ar cI (mA 31) 40 gRS_22, ar cI (mA 32) 40 gPD_22, ar cI (mA 33) 40 gWS_22, ar cI (mA 34) 10 gFA_22, ar cI (mA 5) 10 fPU, ar cI (mA 8) 40 fCR, ar cI (mA 7) 40 fDB] := hD
                  refine lv_aload_n hx hb dX8_clear_142 rfl (lv_at hl 0 rfl) ?_
                  refine va_get (D := D) (ci := 8) (v := .ref (mA 41)) (C := RX8) (T := TX8) (N := 44) hx hb hts inX8 hown hK hP 4 rfl rfl 41 (by decide) fl78 (fun _ h9 => h9) rfl dX8_clear_143 ?_
                  refine lv_aload_n hx hb dX8_clear_146 rfl (lv_at hl 0 rfl) ?_
                  refine va_get (D := D) (ci := 8) (v := .ref (mA 8)) (C := RX8) (T := TX8) (N := 44) hx hb hts inX8 hown hK hP 4 rfl rfl 8 (by decide) fl19 (fun _ h9 => h9) rfl dX8_clear_147 ?_
                  refine lv_iload_n hx hb dX8_clear_150 rfl (lv_at hl 3 rfl) ?_
                  refine m_iald (k := k) hx hb hK hP 15 0 rfl rfl (by omega) (by decide) dX8_clear_151 ?_
                  refine lv_dup2_11 hx hb dX8_clear_152 rfl rfl ?_
                  refine va_iald hx hb hK hP 1 0 rfl rfl (vp_wide (hcr k (by omega)) hnm) dX8_clear_153 ?_
                  refine lv_aload_n hx hb dX8_clear_154 rfl (lv_at hl 0 rfl) ?_
                  refine va_get (D := D) (ci := 8) (v := .ref (mA 32)) (C := RX8) (T := TX8) (N := 44) hx hb hts inX8 hown hK hP 4 rfl rfl 32 (by decide) fl66 (fun _ h9 => h9) rfl dX8_clear_155 ?_
                  refine lv_iload_n hx hb dX8_clear_158 rfl (lv_at hl 3 rfl) ?_
                  refine m_iald (k := k) hx hb hK hP 11 0 rfl rfl (by omega) (by decide) dX8_clear_159 ?_
                  refine lv_iadd hx hb dX8_clear_160 ?_
                  refine va_iast (x := ((cH2 (ix (fCR k))) + (gPD_22 k))) hx hb hK hP hD hS 1 0 rfl rfl (vp_wide (hcr k (by omega)) hnm) dX8_clear_161 (fun H locs hP hD hS => ?_)
                  have hP : va_P D vwCl [ar cI (mA 40) 40 (upd cP2 k (gPD_22 k)), ar cI (mA 41) 10 (upd cH2 (ix (fCR k)) ((cH2 (ix (fCR k))) + (gPD_22 k))), ar cI (mA 42) 10 cF1, ar cI (mA 43) 10 cO2, mo aM mA (nI nt) 0 td (nI nm) (nI np) isd ln rf rp sz nx kd wh pl rd (nI R_22) 1 (nI nm) (nI np) (nI R_22), ar cI (mA 19) 20 fRU, ar cI (mA 15) 40 fDY, ar cI (mA 14) 40 fLF, ar cI (mA 13) 40 fRK, ar cI (mA 30) 40 gOW_22, ar cI (mA 31) 40 gRS_22, ar cI (mA 32) 40 gPD_22, ar cI (mA 33) 40 gWS_22, ar cI (mA 34) 10 gFA_22, ar cI (mA 5) 10 fPU, ar cI (mA 8) 40 fCR, ar cI (mA 7) 40 fDB] H := hP
                  have hD : va_D A [ar cI (mA 40) 40 (upd cP2 k (gPD_22 k)), ar cI (mA 41) 10 (upd cH2 (ix (fCR k)) ((cH2 (ix (fCR k))) + (gPD_22 k))), ar cI (mA 42) 10 cF1, ar cI (mA 43) 10 cO2, mo aM mA (nI nt) 0 td (nI nm) (nI np) isd ln rf rp sz nx kd wh pl rd (nI R_22) 1 (nI nm) (nI np) (nI R_22), ar cI (mA 19) 20 fRU, ar cI (mA 15) 40 fDY, ar cI (mA 14) 40 fLF, ar cI (mA 13) 40 fRK, ar cI (mA 30) 40 gOW_22, ar cI (mA 31) 40 gRS_22, ar cI (mA 32) 40 gPD_22, ar cI (mA 33) 40 gWS_22, ar cI (mA 34) 10 gFA_22, ar cI (mA 5) 10 fPU, ar cI (mA 8) 40 fCR, ar cI (mA 7) 40 fDB] := hD
                  refine lv_aload_n hx hb dX8_clear_162 rfl (lv_at hl 0 rfl) ?_
                  refine va_get (D := D) (ci := 8) (v := .ref (mA 41)) (C := RX8) (T := TX8) (N := 44) hx hb hts inX8 hown hK hP 4 rfl rfl 41 (by decide) fl78 (fun _ h9 => h9) rfl dX8_clear_163 ?_
                  refine lv_aload_n hx hb dX8_clear_166 rfl (lv_at hl 0 rfl) ?_
                  refine va_get (D := D) (ci := 8) (v := .ref (mA 7)) (C := RX8) (T := TX8) (N := 44) hx hb hts inX8 hown hK hP 4 rfl rfl 7 (by decide) fl16 (fun _ h9 => h9) rfl dX8_clear_167 ?_
                  refine lv_iload_n hx hb dX8_clear_170 rfl (lv_at hl 3 rfl) ?_
                  refine m_iald (k := k) hx hb hK hP 16 0 rfl rfl (by omega) (by decide) dX8_clear_171 ?_
                  refine lv_dup2_11 hx hb dX8_clear_172 rfl rfl ?_
                  refine va_iald hx hb hK hP 1 0 rfl rfl (vp_wide (hdb k (by omega)) hnm) dX8_clear_173 ?_
                  refine lv_aload_n hx hb dX8_clear_174 rfl (lv_at hl 0 rfl) ?_
                  refine va_get (D := D) (ci := 8) (v := .ref (mA 32)) (C := RX8) (T := TX8) (N := 44) hx hb hts inX8 hown hK hP 4 rfl rfl 32 (by decide) fl66 (fun _ h9 => h9) rfl dX8_clear_175 ?_
                  refine lv_iload_n hx hb dX8_clear_178 rfl (lv_at hl 3 rfl) ?_
                  refine m_iald (k := k) hx hb hK hP 11 0 rfl rfl (by omega) (by decide) dX8_clear_179 ?_
                  refine lv_isub hx hb dX8_clear_180 ?_
                  refine va_iast (x := (((upd cH2 (ix (fCR k)) ((cH2 (ix (fCR k))) + (gPD_22 k))) (ix (fDB k))) - (gPD_22 k))) hx hb hK hP hD hS 1 0 rfl rfl (vp_wide (hdb k (by omega)) hnm) dX8_clear_181 (fun H locs hP hD hS => ?_)
                  have hP : va_P D vwCl [ar cI (mA 40) 40 (upd cP2 k (gPD_22 k)), ar cI (mA 41) 10 (upd (upd cH2 (ix (fCR k)) ((cH2 (ix (fCR k))) + (gPD_22 k))) (ix (fDB k)) (((upd cH2 (ix (fCR k)) ((cH2 (ix (fCR k))) + (gPD_22 k))) (ix (fDB k))) - (gPD_22 k))), ar cI (mA 42) 10 cF1, ar cI (mA 43) 10 cO2, mo aM mA (nI nt) 0 td (nI nm) (nI np) isd ln rf rp sz nx kd wh pl rd (nI R_22) 1 (nI nm) (nI np) (nI R_22), ar cI (mA 19) 20 fRU, ar cI (mA 15) 40 fDY, ar cI (mA 14) 40 fLF, ar cI (mA 13) 40 fRK, ar cI (mA 30) 40 gOW_22, ar cI (mA 31) 40 gRS_22, ar cI (mA 32) 40 gPD_22, ar cI (mA 33) 40 gWS_22, ar cI (mA 34) 10 gFA_22, ar cI (mA 5) 10 fPU, ar cI (mA 8) 40 fCR, ar cI (mA 7) 40 fDB] H := hP
                  have hD : va_D A [ar cI (mA 40) 40 (upd cP2 k (gPD_22 k)), ar cI (mA 41) 10 (upd (upd cH2 (ix (fCR k)) ((cH2 (ix (fCR k))) + (gPD_22 k))) (ix (fDB k)) (((upd cH2 (ix (fCR k)) ((cH2 (ix (fCR k))) + (gPD_22 k))) (ix (fDB k))) - (gPD_22 k))), ar cI (mA 42) 10 cF1, ar cI (mA 43) 10 cO2, mo aM mA (nI nt) 0 td (nI nm) (nI np) isd ln rf rp sz nx kd wh pl rd (nI R_22) 1 (nI nm) (nI np) (nI R_22), ar cI (mA 19) 20 fRU, ar cI (mA 15) 40 fDY, ar cI (mA 14) 40 fLF, ar cI (mA 13) 40 fRK, ar cI (mA 30) 40 gOW_22, ar cI (mA 31) 40 gRS_22, ar cI (mA 32) 40 gPD_22, ar cI (mA 33) 40 gWS_22, ar cI (mA 34) 10 gFA_22, ar cI (mA 5) 10 fPU, ar cI (mA 8) 40 fCR, ar cI (mA 7) 40 fDB] := hD
                  refine lv_aload_n hx hb dX8_clear_182 rfl (lv_at hl 0 rfl) ?_
                  refine va_get (D := D) (ci := 8) (v := .ref (mA 43)) (C := RX8) (T := TX8) (N := 44) hx hb hts inX8 hown hK hP 4 rfl rfl 43 (by decide) fl84 (fun _ h9 => h9) rfl dX8_clear_183 ?_
                  refine lv_aload_n hx hb dX8_clear_186 rfl (lv_at hl 0 rfl) ?_
                  refine va_get (D := D) (ci := 8) (v := .ref (mA 7)) (C := RX8) (T := TX8) (N := 44) hx hb hts inX8 hown hK hP 4 rfl rfl 7 (by decide) fl16 (fun _ h9 => h9) rfl dX8_clear_187 ?_
                  refine lv_iload_n hx hb dX8_clear_190 rfl (lv_at hl 3 rfl) ?_
                  refine m_iald (k := k) hx hb hK hP 16 0 rfl rfl (by omega) (by decide) dX8_clear_191 ?_
                  refine lv_dup2_11 hx hb dX8_clear_192 rfl rfl ?_
                  refine va_iald hx hb hK hP 3 0 rfl rfl (vp_wide (hdb k (by omega)) hnm) dX8_clear_193 ?_
                  refine lv_aload_n hx hb dX8_clear_194 rfl (lv_at hl 0 rfl) ?_
                  refine va_get (D := D) (ci := 8) (v := .ref (mA 30)) (C := RX8) (T := TX8) (N := 44) hx hb hts inX8 hown hK hP 4 rfl rfl 30 (by decide) fl60 (fun _ h9 => h9) rfl dX8_clear_195 ?_
                  refine lv_iload_n hx hb dX8_clear_198 rfl (lv_at hl 3 rfl) ?_
                  refine m_iald (k := k) hx hb hK hP 9 0 rfl rfl (by omega) (by decide) dX8_clear_199 ?_
                  refine lv_aload_n hx hb dX8_clear_200 rfl (lv_at hl 0 rfl) ?_
                  refine va_get (D := D) (ci := 8) (v := .ref (mA 32)) (C := RX8) (T := TX8) (N := 44) hx hb hts inX8 hown hK hP 4 rfl rfl 32 (by decide) fl66 (fun _ h9 => h9) rfl dX8_clear_201 ?_
                  refine lv_iload_n hx hb dX8_clear_204 rfl (lv_at hl 3 rfl) ?_
                  refine m_iald (k := k) hx hb hK hP 11 0 rfl rfl (by omega) (by decide) dX8_clear_205 ?_
                  refine lv_isub hx hb dX8_clear_206 ?_
                  refine lv_iadd hx hb dX8_clear_207 ?_
                  refine va_iast (x := ((cO2 (ix (fDB k))) + ((gOW_22 k) - (gPD_22 k)))) hx hb hK hP hD hS 3 0 rfl rfl (vp_wide (hdb k (by omega)) hnm) dX8_clear_208 (fun H locs hP hD hS => ?_)
                  have hP : va_P D vwCl [ar cI (mA 40) 40 (upd cP2 k (gPD_22 k)), ar cI (mA 41) 10 (upd (upd cH2 (ix (fCR k)) ((cH2 (ix (fCR k))) + (gPD_22 k))) (ix (fDB k)) (((upd cH2 (ix (fCR k)) ((cH2 (ix (fCR k))) + (gPD_22 k))) (ix (fDB k))) - (gPD_22 k))), ar cI (mA 42) 10 cF1, ar cI (mA 43) 10 (upd cO2 (ix (fDB k)) ((cO2 (ix (fDB k))) + ((gOW_22 k) - (gPD_22 k)))), mo aM mA (nI nt) 0 td (nI nm) (nI np) isd ln rf rp sz nx kd wh pl rd (nI R_22) 1 (nI nm) (nI np) (nI R_22), ar cI (mA 19) 20 fRU, ar cI (mA 15) 40 fDY, ar cI (mA 14) 40 fLF, ar cI (mA 13) 40 fRK, ar cI (mA 30) 40 gOW_22, ar cI (mA 31) 40 gRS_22, ar cI (mA 32) 40 gPD_22, ar cI (mA 33) 40 gWS_22, ar cI (mA 34) 10 gFA_22, ar cI (mA 5) 10 fPU, ar cI (mA 8) 40 fCR, ar cI (mA 7) 40 fDB] H := hP
                  have hD : va_D A [ar cI (mA 40) 40 (upd cP2 k (gPD_22 k)), ar cI (mA 41) 10 (upd (upd cH2 (ix (fCR k)) ((cH2 (ix (fCR k))) + (gPD_22 k))) (ix (fDB k)) (((upd cH2 (ix (fCR k)) ((cH2 (ix (fCR k))) + (gPD_22 k))) (ix (fDB k))) - (gPD_22 k))), ar cI (mA 42) 10 cF1, ar cI (mA 43) 10 (upd cO2 (ix (fDB k)) ((cO2 (ix (fDB k))) + ((gOW_22 k) - (gPD_22 k)))), mo aM mA (nI nt) 0 td (nI nm) (nI np) isd ln rf rp sz nx kd wh pl rd (nI R_22) 1 (nI nm) (nI np) (nI R_22), ar cI (mA 19) 20 fRU, ar cI (mA 15) 40 fDY, ar cI (mA 14) 40 fLF, ar cI (mA 13) 40 fRK, ar cI (mA 30) 40 gOW_22, ar cI (mA 31) 40 gRS_22, ar cI (mA 32) 40 gPD_22, ar cI (mA 33) 40 gWS_22, ar cI (mA 34) 10 gFA_22, ar cI (mA 5) 10 fPU, ar cI (mA 8) 40 fCR, ar cI (mA 7) 40 fDB] := hD
                  refine lv_iinc (v := (nI (k + 1))) (lv' := [(3, .int (nI (k + 1))), (0, .ref aM), (1, .int x), (2, .int n)]) hx hb dX8_clear_209 hl (k := 3) rfl (nI_inc k 1 (by decide)) (by decide) rfl (fun ls hl => ?_)
                  refine lv_goto (tgt := 122) hx hb dX8_clear_212 (by decide) ?_
                  exact ih_122 (k + 1) (upd cP2 k (gPD_22 k)) (upd (upd cH2 (ix (fCR k)) ((cH2 (ix (fCR k))) + (gPD_22 k))) (ix (fDB k)) (((upd cH2 (ix (fCR k)) ((cH2 (ix (fCR k))) + (gPD_22 k))) (ix (fDB k))) - (gPD_22 k))) (upd cO2 (ix (fDB k)) ((cO2 (ix (fDB k))) + ((gOW_22 k) - (gPD_22 k)))) (by omega) (by omega) (fil_step g1 rfl) (by rw [g2]; rfl) (by rw [g3]; rfl) _ _ (hP) (hD) hS ls (lv_sub hl [1, 2, 3, 0] rfl)
            exact L_122 ((np - 0) + 1) 0 fcP cH1 cO1 (Nat.lt_succ_self _) (by omega) (fil_0.symm) (rfl) (rfl) _ _ (hP) (hD) hS ls (lv_sub hl [1, 2, 3, 0] rfl)
          · skip
            have k_63 : ¬ nm ≤ j := fun h9 => c_63 ((nI_leI (a := nm) (b := j) (by omega) (by omega)).mpr h9)
            refine lv_aload_n hx hb dX8_clear_66 rfl (lv_at hl 0 rfl) ?_
            refine va_get (D := D) (ci := 8) (v := .ref (mA 41)) (C := RX8) (T := TX8) (N := 44) hx hb hts inX8 hown hK hP 4 rfl rfl 41 (by decide) fl78 (fun _ h9 => h9) rfl dX8_clear_67 ?_
            refine lv_iload_n hx hb dX8_clear_70 rfl (lv_at hl 3 rfl) ?_
            refine lv_aload_n hx hb dX8_clear_71 rfl (lv_at hl 0 rfl) ?_
            refine va_get (D := D) (ci := 8) (v := .ref (mA 5)) (C := RX8) (T := TX8) (N := 44) hx hb hts inX8 hown hK hP 4 rfl rfl 5 (by decide) fl13 (fun _ h9 => h9) rfl dX8_clear_72 ?_
            refine lv_iload_n hx hb dX8_clear_75 rfl (lv_at hl 3 rfl) ?_
            refine m_iald (k := j) hx hb hK hP 14 0 rfl rfl (by omega) (by decide) dX8_clear_76 ?_
            refine m_iast (k := j) (x := (fPU j)) hx hb hK hP hD hS 1 0 rfl rfl (by omega) (by decide) dX8_clear_77 (fun H locs hP hD hS => ?_)
            have hP : va_P D vwCl [ar cI (mA 40) 40 fcP, ar cI (mA 41) 10 (upd cH1 j (fPU j)), ar cI (mA 42) 10 cF1, ar cI (mA 43) 10 cO1, mo aM mA (nI nt) 0 td (nI nm) (nI np) isd ln rf rp sz nx kd wh pl rd (nI R_22) 1 (nI nm) (nI np) (nI R_22), ar cI (mA 19) 20 fRU, ar cI (mA 15) 40 fDY, ar cI (mA 14) 40 fLF, ar cI (mA 13) 40 fRK, ar cI (mA 30) 40 gOW_22, ar cI (mA 31) 40 gRS_22, ar cI (mA 32) 40 gPD_22, ar cI (mA 33) 40 gWS_22, ar cI (mA 34) 10 gFA_22, ar cI (mA 5) 10 fPU, ar cI (mA 8) 40 fCR, ar cI (mA 7) 40 fDB] H := hP
            have hD : va_D A [ar cI (mA 40) 40 fcP, ar cI (mA 41) 10 (upd cH1 j (fPU j)), ar cI (mA 42) 10 cF1, ar cI (mA 43) 10 cO1, mo aM mA (nI nt) 0 td (nI nm) (nI np) isd ln rf rp sz nx kd wh pl rd (nI R_22) 1 (nI nm) (nI np) (nI R_22), ar cI (mA 19) 20 fRU, ar cI (mA 15) 40 fDY, ar cI (mA 14) 40 fLF, ar cI (mA 13) 40 fRK, ar cI (mA 30) 40 gOW_22, ar cI (mA 31) 40 gRS_22, ar cI (mA 32) 40 gPD_22, ar cI (mA 33) 40 gWS_22, ar cI (mA 34) 10 gFA_22, ar cI (mA 5) 10 fPU, ar cI (mA 8) 40 fCR, ar cI (mA 7) 40 fDB] := hD
            refine lv_aload_n hx hb dX8_clear_78 rfl (lv_at hl 0 rfl) ?_
            refine va_get (D := D) (ci := 8) (v := .ref (mA 43)) (C := RX8) (T := TX8) (N := 44) hx hb hts inX8 hown hK hP 4 rfl rfl 43 (by decide) fl84 (fun _ h9 => h9) rfl dX8_clear_79 ?_
            refine lv_iload_n hx hb dX8_clear_82 rfl (lv_at hl 3 rfl) ?_
            refine lv_iconst (v := 0) hx hb dX8_clear_83 (by decide) ?_
            refine m_iast (k := j) (x := 0) hx hb hK hP hD hS 3 0 rfl rfl (by omega) (by decide) dX8_clear_84 (fun H locs hP hD hS => ?_)
            have hP : va_P D vwCl [ar cI (mA 40) 40 fcP, ar cI (mA 41) 10 (upd cH1 j (fPU j)), ar cI (mA 42) 10 cF1, ar cI (mA 43) 10 (upd cO1 j 0), mo aM mA (nI nt) 0 td (nI nm) (nI np) isd ln rf rp sz nx kd wh pl rd (nI R_22) 1 (nI nm) (nI np) (nI R_22), ar cI (mA 19) 20 fRU, ar cI (mA 15) 40 fDY, ar cI (mA 14) 40 fLF, ar cI (mA 13) 40 fRK, ar cI (mA 30) 40 gOW_22, ar cI (mA 31) 40 gRS_22, ar cI (mA 32) 40 gPD_22, ar cI (mA 33) 40 gWS_22, ar cI (mA 34) 10 gFA_22, ar cI (mA 5) 10 fPU, ar cI (mA 8) 40 fCR, ar cI (mA 7) 40 fDB] H := hP
            have hD : va_D A [ar cI (mA 40) 40 fcP, ar cI (mA 41) 10 (upd cH1 j (fPU j)), ar cI (mA 42) 10 cF1, ar cI (mA 43) 10 (upd cO1 j 0), mo aM mA (nI nt) 0 td (nI nm) (nI np) isd ln rf rp sz nx kd wh pl rd (nI R_22) 1 (nI nm) (nI np) (nI R_22), ar cI (mA 19) 20 fRU, ar cI (mA 15) 40 fDY, ar cI (mA 14) 40 fLF, ar cI (mA 13) 40 fRK, ar cI (mA 30) 40 gOW_22, ar cI (mA 31) 40 gRS_22, ar cI (mA 32) 40 gPD_22, ar cI (mA 33) 40 gWS_22, ar cI (mA 34) 10 gFA_22, ar cI (mA 5) 10 fPU, ar cI (mA 8) 40 fCR, ar cI (mA 7) 40 fDB] := hD
            refine lv_aload_n hx hb dX8_clear_85 rfl (lv_at hl 0 rfl) ?_
            refine va_get (D := D) (ci := 8) (v := .ref (mA 42)) (C := RX8) (T := TX8) (N := 44) hx hb hts inX8 hown hK hP 4 rfl rfl 42 (by decide) fl81 (fun _ h9 => h9) rfl dX8_clear_86 ?_
            refine lv_iload_n hx hb dX8_clear_89 rfl (lv_at hl 3 rfl) ?_
            refine lv_aload_n hx hb dX8_clear_90 rfl (lv_at hl 0 rfl) ?_
            refine va_get (D := D) (ci := 8) (v := .ref (mA 34)) (C := RX8) (T := TX8) (N := 44) hx hb hts inX8 hown hK hP 4 rfl rfl 34 (by decide) fl72 (fun _ h9 => h9) rfl dX8_clear_91 ?_
            refine lv_iload_n hx hb dX8_clear_94 rfl (lv_at hl 3 rfl) ?_
            refine m_iald (k := j) hx hb hK hP 13 0 rfl rfl (by omega) (by decide) dX8_clear_95 ?_
            refine m_iast (k := j) (x := (gFA_22 j)) hx hb hK hP hD hS 2 0 rfl rfl (by omega) (by decide) dX8_clear_96 (fun H locs hP hD hS => ?_)
            have hP : va_P D vwCl [ar cI (mA 40) 40 fcP, ar cI (mA 41) 10 (upd cH1 j (fPU j)), ar cI (mA 42) 10 (upd cF1 j (gFA_22 j)), ar cI (mA 43) 10 (upd cO1 j 0), mo aM mA (nI nt) 0 td (nI nm) (nI np) isd ln rf rp sz nx kd wh pl rd (nI R_22) 1 (nI nm) (nI np) (nI R_22), ar cI (mA 19) 20 fRU, ar cI (mA 15) 40 fDY, ar cI (mA 14) 40 fLF, ar cI (mA 13) 40 fRK, ar cI (mA 30) 40 gOW_22, ar cI (mA 31) 40 gRS_22, ar cI (mA 32) 40 gPD_22, ar cI (mA 33) 40 gWS_22, ar cI (mA 34) 10 gFA_22, ar cI (mA 5) 10 fPU, ar cI (mA 8) 40 fCR, ar cI (mA 7) 40 fDB] H := hP
            have hD : va_D A [ar cI (mA 40) 40 fcP, ar cI (mA 41) 10 (upd cH1 j (fPU j)), ar cI (mA 42) 10 (upd cF1 j (gFA_22 j)), ar cI (mA 43) 10 (upd cO1 j 0), mo aM mA (nI nt) 0 td (nI nm) (nI np) isd ln rf rp sz nx kd wh pl rd (nI R_22) 1 (nI nm) (nI np) (nI R_22), ar cI (mA 19) 20 fRU, ar cI (mA 15) 40 fDY, ar cI (mA 14) 40 fLF, ar cI (mA 13) 40 fRK, ar cI (mA 30) 40 gOW_22, ar cI (mA 31) 40 gRS_22, ar cI (mA 32) 40 gPD_22, ar cI (mA 33) 40 gWS_22, ar cI (mA 34) 10 gFA_22, ar cI (mA 5) 10 fPU, ar cI (mA 8) 40 fCR, ar cI (mA 7) 40 fDB] := hD
            refine lv_iload_n hx hb dX8_clear_97 rfl (lv_at hl 2 rfl) ?_
            refine lv_aload_n hx hb dX8_clear_98 rfl (lv_at hl 0 rfl) ?_
            refine va_get (D := D) (ci := 8) (v := .ref (mA 34)) (C := RX8) (T := TX8) (N := 44) hx hb hts inX8 hown hK hP 4 rfl rfl 34 (by decide) fl72 (fun _ h9 => h9) rfl dX8_clear_99 ?_
            refine lv_iload_n hx hb dX8_clear_102 rfl (lv_at hl 3 rfl) ?_
            refine m_iald (k := j) hx hb hK hP 13 0 rfl rfl (by omega) (by decide) dX8_clear_103 ?_
            refine lv_if_le (tgt := 111) hx hb dX8_clear_104 (by decide) (fun c_104 => ?_) (fun c_104 => ?_)
            · skip
              refine lv_iconst (v := 0) hx hb dX8_clear_111 (by decide) ?_
              refine lv_iadd hx hb dX8_clear_112 ?_
              refine lv_istore_n (lv' := [(2, .int (n + 0)), (0, .ref aM), (1, .int x), (3, .int (nI j))]) hx hb dX8_clear_113 rfl hl (by decide) rfl (fun ls hl => ?_)
              refine lv_iinc (v := (nI (j + 1))) (lv' := [(3, .int (nI (j + 1))), (2, .int (n + 0)), (0, .ref aM), (1, .int x)]) hx hb dX8_clear_114 hl (k := 3) rfl (nI_inc j 1 (by decide)) (by decide) rfl (fun ls hl => ?_)
              refine lv_goto (tgt := 58) hx hb dX8_clear_117 (by decide) ?_
              exact ih_58 (j + 1) (n + 0) (upd cH1 j (fPU j)) (upd cO1 j 0) (upd cF1 j (gFA_22 j)) (by omega) (by omega) (by rw [hn]; exact cnt_step (by rw [w5.2 j (by omega)]; exact failR_pos (by omega)) (by first | exact Or.inl ⟨c_104, rfl⟩ | exact Or.inr ⟨c_104, rfl⟩)) (fil_step f1 rfl) (fil_step f2 rfl) (fil_step f3 rfl) _ _ (hP) (hD) hS ls (lv_sub hl [2, 3, 1, 0] rfl)
            · skip
              refine lv_iconst (v := 1) hx hb dX8_clear_107 (by decide) ?_
              refine lv_goto (tgt := 112) hx hb dX8_clear_108 (by decide) ?_
              refine lv_iadd hx hb dX8_clear_112 ?_
              refine lv_istore_n (lv' := [(2, .int (n + 1)), (0, .ref aM), (1, .int x), (3, .int (nI j))]) hx hb dX8_clear_113 rfl hl (by decide) rfl (fun ls hl => ?_)
              refine lv_iinc (v := (nI (j + 1))) (lv' := [(3, .int (nI (j + 1))), (2, .int (n + 1)), (0, .ref aM), (1, .int x)]) hx hb dX8_clear_114 hl (k := 3) rfl (nI_inc j 1 (by decide)) (by decide) rfl (fun ls hl => ?_)
              refine lv_goto (tgt := 58) hx hb dX8_clear_117 (by decide) ?_
              exact ih_58 (j + 1) (n + 1) (upd cH1 j (fPU j)) (upd cO1 j 0) (upd cF1 j (gFA_22 j)) (by omega) (by omega) (by rw [hn]; exact cnt_step (by rw [w5.2 j (by omega)]; exact failR_pos (by omega)) (by first | exact Or.inl ⟨c_104, rfl⟩ | exact Or.inr ⟨c_104, rfl⟩)) (fil_step f1 rfl) (fil_step f2 rfl) (fil_step f3 rfl) _ _ (hP) (hD) hS ls (lv_sub hl [2, 3, 1, 0] rfl)
      exact L_58 ((nm - 0) + 1) 0 0 fcH fcO fcF (Nat.lt_succ_self _) (by omega) (rfl) (fil_0.symm) (fil_0.symm) (fil_0.symm) _ _ (hP) (hD) hS ls (lv_sub hl [2, 3, 1, 0] rfl)
abbrev r_c_X8_end : Room := { frames := 3, cells := 0, slots := 0, locals := 67 }
set_option maxHeartbeats 4000000 in
set_option maxRecDepth 100000 in
theorem c_X8_end (l : Launch) (D : va_G) (cI cZ : ClassId) (aM : Nat) (mA : Nat → Nat) (nt : Nat) (th : Int32) (td : Int32) (nm : Nat) (np : Nat) (isd : Int32) (ln : Int32) (rf : Int32) (rp : Int32) (sz : Int32) (nx : Int32) (kd : Int32) (wh : Int32) (pl : Int32) (rd : Int32) (rn : Int32) (ic : Int32) (mcm : Int32) (mcp : Int32) (mcr : Int32) (fRU : Nat → Int32) (fDY : Nat → Int32) (fLF : Nat → Int32) (fRK : Nat → Int32) (fOW : Nat → Int32) (fRS : Nat → Int32) (fPD : Nat → Int32) (fWS : Nat → Int32) (fFA : Nat → Int32) (fPU : Nat → Int32) (fCR : Nat → Int32) (fDB : Nat → Int32) (HP : papOk np nm fDB fCR fRK fLF fPU) (htd : 0 ≤ td ∧ td ≤ 999) : MI l yX8_end wsX8_end r_c_X8_end D cI cZ [.ref aM] [mo aM mA (nI nt) th td (nI nm) (nI np) isd ln rf rp sz nx kd wh pl rd rn ic mcm mcp mcr, ar cI (mA 19) 20 fRU, ar cI (mA 15) 40 fDY, ar cI (mA 14) 40 fLF, ar cI (mA 13) 40 fRK, ar cI (mA 30) 40 fOW, ar cI (mA 31) 40 fRS, ar cI (mA 32) 40 fPD, ar cI (mA 33) 40 fWS, ar cI (mA 34) 10 fFA, ar cI (mA 5) 10 fPU, ar cI (mA 8) 40 fCR, ar cI (mA 7) 40 fDB] (fun (r : Int32) (u : Int32 × Int32 × (Nat → Int32) × (Nat → Int32) × (Nat → Int32) × (Nat → Int32) × (Nat → Int32) × (Nat → Int32) × (Nat → Int32)) => (td < 999 ∧ u.2.1 = td + 1 ∧ (∃ R HS UN, ClearRes np nm fDB fCR fPU fLF fRK u.2.2.2.2.1 HS UN u.2.2.2.2.2.2.1 R ∧ u.2.2.2.2.2.2.2.1 = fil HS fPU nm) ∧ r = sumS u.2.2.2.2.1 np ∧ u.2.2.2.2.2.2.2.2 = fil (fun j => fLF j - u.2.2.2.2.1 j) fLF np) ∨ (¬ td < 999 ∧ r = -1 ∧ u.2.1 = td ∧ u.2.2.2.2.2.2.2.1 = fPU ∧ u.2.2.2.2.2.2.2.2 = fLF)) (fun (u : Int32 × Int32 × (Nat → Int32) × (Nat → Int32) × (Nat → Int32) × (Nat → Int32) × (Nat → Int32) × (Nat → Int32) × (Nat → Int32)) => [mo aM mA (nI nt) 0 u.2.1 (nI nm) (nI np) isd ln rf rp sz nx kd wh pl rd u.1 ic mcm mcp mcr, ar cI (mA 19) 20 fRU, ar cI (mA 15) 40 fDY, ar cI (mA 14) 40 u.2.2.2.2.2.2.2.2, ar cI (mA 13) 40 fRK, ar cI (mA 30) 40 u.2.2.1, ar cI (mA 31) 40 u.2.2.2.1, ar cI (mA 32) 40 u.2.2.2.2.1, ar cI (mA 33) 40 u.2.2.2.2.2.1, ar cI (mA 34) 10 u.2.2.2.2.2.2.1, ar cI (mA 5) 10 u.2.2.2.2.2.2.2.1, ar cI (mA 8) 40 fCR, ar cI (mA 7) 40 fDB]) 0 0 := by
  refine MI.of (cc := cX8_end) (maxL := 3) (by decide) rfl (Nat.le_of_ble_eq_true rfl) ?_
  intro p e s m below meth c A Q hx hb hml hown hts hN hK hA ret hP hD hS ls hl
  have hown : s.vm.findClass RX8 = some m.cls := hown
  have inX8 : ∀ w ∈ wsX80, w ∈ wsX8_end := by decide +kernel
  have fl13 := hts (.fieldLink RX8 13 "AdvanceBookModel" "purse" "[I") (by decide +kernel)
  have fl16 := hts (.fieldLink RX8 16 "AdvanceBookModel" "debtor" "[I") (by decide +kernel)
  have fl19 := hts (.fieldLink RX8 19 "AdvanceBookModel" "creditor" "[I") (by decide +kernel)
  have fl37 := hts (.fieldLink RX8 37 "AdvanceBookModel" "left" "[I") (by decide +kernel)
  have fl66 := hts (.fieldLink RX8 66 "AdvanceBookModel" "paid" "[I") (by decide +kernel)
  have fl87 := hts (.fieldLink RX8 87 "AdvanceBookModel" "thrown" "I") (by decide +kernel)
  have fl101 := hts (.fieldLink RX8 101 "AdvanceBookModel" "papers" "I") (by decide +kernel)
  have fl104 := hts (.fieldLink RX8 104 "AdvanceBookModel" "today" "I") (by decide +kernel)
  have hP : va_P D vwCl [mo aM mA (nI nt) th td (nI nm) (nI np) isd ln rf rp sz nx kd wh pl rd rn ic mcm mcp mcr, ar cI (mA 19) 20 fRU, ar cI (mA 15) 40 fDY, ar cI (mA 14) 40 fLF, ar cI (mA 13) 40 fRK, ar cI (mA 30) 40 fOW, ar cI (mA 31) 40 fRS, ar cI (mA 32) 40 fPD, ar cI (mA 33) 40 fWS, ar cI (mA 34) 10 fFA, ar cI (mA 5) 10 fPU, ar cI (mA 8) 40 fCR, ar cI (mA 7) 40 fDB] s.heap := hP
  have hD : va_D A [mo aM mA (nI nt) th td (nI nm) (nI np) isd ln rf rp sz nx kd wh pl rd rn ic mcm mcp mcr, ar cI (mA 19) 20 fRU, ar cI (mA 15) 40 fDY, ar cI (mA 14) 40 fLF, ar cI (mA 13) 40 fRK, ar cI (mA 30) 40 fOW, ar cI (mA 31) 40 fRS, ar cI (mA 32) 40 fPD, ar cI (mA 33) 40 fWS, ar cI (mA 34) 10 fFA, ar cI (mA 5) 10 fPU, ar cI (mA 8) 40 fCR, ar cI (mA 7) 40 fDB] := hD
  have hl : lv_has ls 3 [(0, .ref aM)] := hl
  have hnp := HP.1
  have hnm := HP.2.1
  have hdb := HP.2.2.1
  have hcr := HP.2.2.2.1
  refine lv_aload_n hx hb dX8_end_0 rfl (lv_at hl 0 rfl) ?_
  refine lv_iconst (v := 0) hx hb dX8_end_1 (by decide) ?_
  refine va_put (D := D) (ci := 8) (v := .int 0) (ty := .int) (C := RX8) (T := TX8) (N := 44) hx hb hts inX8 tyX8 tyX8_ok nmX8 hown hK hP hD hS 0 rfl rfl 2 (by decide) fl87 (fun _ h9 => h9) rfl (by decide +kernel) (rfl) (rfl) (Nat.le_of_ble_eq_true rfl) dX8_end_2 (fun H locs hP hD hS => ?_)
  have hP : va_P D vwCl [mo aM mA (nI nt) 0 td (nI nm) (nI np) isd ln rf rp sz nx kd wh pl rd rn ic mcm mcp mcr, ar cI (mA 19) 20 fRU, ar cI (mA 15) 40 fDY, ar cI (mA 14) 40 fLF, ar cI (mA 13) 40 fRK, ar cI (mA 30) 40 fOW, ar cI (mA 31) 40 fRS, ar cI (mA 32) 40 fPD, ar cI (mA 33) 40 fWS, ar cI (mA 34) 10 fFA, ar cI (mA 5) 10 fPU, ar cI (mA 8) 40 fCR, ar cI (mA 7) 40 fDB] H := hP
  have hD : va_D A [mo aM mA (nI nt) 0 td (nI nm) (nI np) isd ln rf rp sz nx kd wh pl rd rn ic mcm mcp mcr, ar cI (mA 19) 20 fRU, ar cI (mA 15) 40 fDY, ar cI (mA 14) 40 fLF, ar cI (mA 13) 40 fRK, ar cI (mA 30) 40 fOW, ar cI (mA 31) 40 fRS, ar cI (mA 32) 40 fPD, ar cI (mA 33) 40 fWS, ar cI (mA 34) 10 fFA, ar cI (mA 5) 10 fPU, ar cI (mA 8) 40 fCR, ar cI (mA 7) 40 fDB] := hD
  refine lv_aload_n hx hb dX8_end_5 rfl (lv_at hl 0 rfl) ?_
  refine va_get (D := D) (ci := 8) (v := .int td) (C := RX8) (T := TX8) (N := 44) hx hb hts inX8 hown hK hP 0 rfl rfl 3 (by decide) fl104 (fun _ h9 => h9) rfl dX8_end_6 ?_
  refine lv_sipush (v := 999) hx hb dX8_end_9 (by decide) ?_
  refine lv_icmp_ne (tgt := 17) hx hb dX8_end_12 (by decide) (fun c_12 => ?_) (fun c_12 => ?_)
  · skip
    refine lv_aload_n hx hb dX8_end_17 rfl (lv_at hl 0 rfl) ?_
    refine lv_iconst (v := 0) hx hb dX8_end_18 (by decide) ?_
    refine m_cVv (As := [.int 0]) (rest := []) (wr := []) ⟨hx, hb, hml, hown, hts⟩ (c_X8_works l D cI cZ aM mA nt 0 td nm np isd ln rf rp sz nx kd wh pl rd rn ic mcm mcp mcr fRU fDY fLF fRK fOW fRS fPD fWS fFA fPU fCR fDB 0 (by first | assumption | omega) (fun k hk => (by rw [if_pos rfl]; exact HP.2.2.2.2.2.1 k hk)) (by rw [if_pos rfl]; exact plain_ok HP)) (cwV 1 hts gX8_end_X8_works rfl rfl rfl (by decide +kernel) ⟨Nat.le_of_ble_eq_true rfl, Nat.le_of_ble_eq_true rfl⟩) hN hK hP hD hS hA [0, 1, 2, 3, 4, 5, 6, 7, 8, 9, 10, 11, 12] [] rfl rfl (by decide) (by decide) (by decide) 0 (ci := 8) rfl rfl rfl rfl hl.1 rfl (Nat.le_of_ble_eq_true rfl) dX8_end_19 ⟨Nat.le_of_ble_eq_true rfl, Nat.le_of_ble_eq_true rfl⟩ (fun u_19 H locs hq_19 hP hD hS => ?_)
    obtain ⟨gOW_19, gRS_19, gPD_19, gWS_19, gFA_19, R_19⟩ := u_19
    replace hq_19 : gOW_19 = fil (if 0 = 0 then fLF else fun j => mLeft fRU (fLF j) (fRK j) (fDY j)) fOW np ∧ gRS_19 = fil (if 0 = 0 then fRK else fun j => mRank fRU (fRK j) (fDY j)) fRS np ∧ isR nm (TRF fDB fCR (owG gOW_19 np) (odF gRS_19 np) np (fun m => (fPU m).toInt)) R_19 ∧ R_19 ≤ 39960 ∧ MSt np nm fDB (odF gRS_19 np) (owG gOW_19 np) ((TRF fDB fCR (owG gOW_19 np) (odF gRS_19 np) np (fun m => (fPU m).toInt)) R_19) (fun m => failR (TRF fDB fCR (owG gOW_19 np) (odF gRS_19 np) np (fun m => (fPU m).toInt)) m R_19) gPD_19 gFA_19 := hq_19
    have hP : va_P D vwCl [mo aM mA (nI nt) 0 td (nI nm) (nI np) isd ln rf rp sz nx kd wh pl rd (nI R_19) ic mcm mcp mcr, ar cI (mA 19) 20 fRU, ar cI (mA 15) 40 fDY, ar cI (mA 14) 40 fLF, ar cI (mA 13) 40 fRK, ar cI (mA 30) 40 gOW_19, ar cI (mA 31) 40 gRS_19, ar cI (mA 32) 40 gPD_19, ar cI (mA 33) 40 gWS_19, ar cI (mA 34) 10 gFA_19, ar cI (mA 5) 10 fPU, ar cI (mA 8) 40 fCR, ar cI (mA 7) 40 fDB] H := hP
    have hD : va_D A [mo aM mA (nI nt) 0 td (nI nm) (nI np) isd ln rf rp sz nx kd wh pl rd (nI R_19) ic mcm mcp mcr, ar cI (mA 19) 20 fRU, ar cI (mA 15) 40 fDY, ar cI (mA 14) 40 fLF, ar cI (mA 13) 40 fRK, ar cI (mA 30) 40 gOW_19, ar cI (mA 31) 40 gRS_19, ar cI (mA 32) 40 gPD_19, ar cI (mA 33) 40 gWS_19, ar cI (mA 34) 10 gFA_19, ar cI (mA 5) 10 fPU, ar cI (mA 8) 40 fCR, ar cI (mA 7) 40 fDB] := hD
    obtain ⟨w1, w2, w3, w4, w5⟩ := hq_19
    rw [if_pos rfl] at w1 w2
    have hOW : ∀ j, j < np → gOW_19 j = fLF j := (fun j hj => by rw [w1]; simp only [fil, if_pos hj])
    have hRS : ∀ j, j < np → gRS_19 j = fRK j := (fun j hj => by rw [w2]; simp only [fil, if_pos hj])
    have hro1 : rkOk gRS_19 np := (fun j hj => by rw [hRS j hj]; exact (plain_ok HP) j hj)
    have how1 : ∀ j, j < np → 0 ≤ (gOW_19 j).toInt ∧ (gOW_19 j).toInt ≤ 999 := (fun j hj => by rw [hOW j hj]; exact (HP.2.2.2.2.2.1) j hj)
    have HC := clcM_ok HP hro1 how1
    have hpd := MSt_pd HC hro1 w5
    refine lv_iconst (v := 0) hx hb dX8_end_22 (by decide) ?_
    refine lv_istore_n (lv' := [(1, .int 0), (0, .ref aM)]) hx hb dX8_end_23 rfl hl (by decide) rfl (fun ls hl => ?_)
    refine lv_iconst (v := 0) hx hb dX8_end_24 (by decide) ?_
    refine lv_istore_n (lv' := [(2, .int 0), (1, .int 0), (0, .ref aM)]) hx hb dX8_end_25 rfl hl (by decide) rfl (fun ls hl => ?_)
    have L_26 : ∀ (n_26 : Nat) (k : Nat) (sm : Int32) (PU2 : Nat → Int32) (LF2 : Nat → Int32), (np - k < n_26) → (k ≤ np) → (sm = sumS gPD_19 k) → (PU2 = hasM gPD_19 (dbN fDB) (dbN fCR) fPU k) → (LF2 = fil (fun j => fLF j - gPD_19 j) fLF k) → ∀ (H : Heap) (locs : List Loc), va_P D vwCl [mo aM mA (nI nt) 0 td (nI nm) (nI np) isd ln rf rp sz nx kd wh pl rd (nI R_19) ic mcm mcp mcr, ar cI (mA 19) 20 fRU, ar cI (mA 15) 40 fDY, ar cI (mA 14) 40 LF2, ar cI (mA 13) 40 fRK, ar cI (mA 30) 40 gOW_19, ar cI (mA 31) 40 gRS_19, ar cI (mA 32) 40 gPD_19, ar cI (mA 33) 40 gWS_19, ar cI (mA 34) 10 gFA_19, ar cI (mA 5) 10 PU2, ar cI (mA 8) 40 fCR, ar cI (mA 7) 40 fDB] H → va_D A [mo aM mA (nI nt) 0 td (nI nm) (nI np) isd ln rf rp sz nx kd wh pl rd (nI R_19) ic mcm mcp mcr, ar cI (mA 19) 20 fRU, ar cI (mA 15) 40 fDY, ar cI (mA 14) 40 LF2, ar cI (mA 13) 40 fRK, ar cI (mA 30) 40 gOW_19, ar cI (mA 31) 40 gRS_19, ar cI (mA 32) 40 gPD_19, ar cI (mA 33) 40 gWS_19, ar cI (mA 34) 10 gFA_19, ar cI (mA 5) 10 PU2, ar cI (mA 8) 40 fCR, ar cI (mA 7) 40 fDB] → va_S A s.heap H locs → ∀ ls : Array Slot, lv_has ls 3 [(0, .ref aM), (1, .int sm), (2, .int (nI k))] → W p l e r_c_X8_end s m (([.ref aM] : List Value).toArray) below meth c H locs 0 0 Q (F0 m 26 ls []) := by
      intro n_26
      induction n_26 with
      | zero => intro k sm PU2 LF2 hfu; exact absurd hfu (Nat.not_lt_zero _)
      | succ n_26 ih_26 =>
        intro k sm PU2 LF2 hfu_26 hk hs g1 g2 H locs hP hD hS ls hl
        refine lv_iload_n hx hb dX8_end_26 rfl (lv_at hl 2 rfl) ?_
        refine lv_aload_n hx hb dX8_end_27 rfl (lv_at hl 0 rfl) ?_
        refine va_get (D := D) (ci := 8) (v := .int (nI np)) (C := RX8) (T := TX8) (N := 44) hx hb hts inX8 hown hK hP 0 rfl rfl 6 (by decide) fl101 (fun _ h9 => h9) rfl dX8_end_28 ?_
        refine lv_icmp_ge (tgt := 104) hx hb dX8_end_31 (by decide) (fun c_31 => ?_) (fun c_31 => ?_)
        · skip
          have k_31 : np ≤ k := (nI_leI (a := np) (b := k) (by omega) (by omega)).mp c_31
          refine lv_aload_n hx hb dX8_end_104 rfl (lv_at hl 0 rfl) ?_
          refine lv_dup hx hb dX8_end_105 rfl ?_
          refine va_get (D := D) (ci := 8) (v := .int td) (C := RX8) (T := TX8) (N := 44) hx hb hts inX8 hown hK hP 0 rfl rfl 3 (by decide) fl104 (fun _ h9 => h9) rfl dX8_end_106 ?_
          refine lv_iconst (v := 1) hx hb dX8_end_109 (by decide) ?_
          refine lv_iadd hx hb dX8_end_110 ?_
          refine va_put (D := D) (ci := 8) (v := .int (td + 1)) (ty := .int) (C := RX8) (T := TX8) (N := 44) hx hb hts inX8 tyX8 tyX8_ok nmX8 hown hK hP hD hS 0 rfl rfl 3 (by decide) fl104 (fun _ h9 => h9) rfl (by decide +kernel) (rfl) (rfl) (Nat.le_of_ble_eq_true rfl) dX8_end_111 (fun H locs hP hD hS => ?_)
          have hP : va_P D vwCl [mo aM mA (nI nt) 0 (td + 1) (nI nm) (nI np) isd ln rf rp sz nx kd wh pl rd (nI R_19) ic mcm mcp mcr, ar cI (mA 19) 20 fRU, ar cI (mA 15) 40 fDY, ar cI (mA 14) 40 LF2, ar cI (mA 13) 40 fRK, ar cI (mA 30) 40 gOW_19, ar cI (mA 31) 40 gRS_19, ar cI (mA 32) 40 gPD_19, ar cI (mA 33) 40 gWS_19, ar cI (mA 34) 10 gFA_19, ar cI (mA 5) 10 PU2, ar cI (mA 8) 40 fCR, ar cI (mA 7) 40 fDB] H := hP
          have hD : va_D A [mo aM mA (nI nt) 0 (td + 1) (nI nm) (nI np) isd ln rf rp sz nx kd wh pl rd (nI R_19) ic mcm mcp mcr, ar cI (mA 19) 20 fRU, ar cI (mA 15) 40 fDY, ar cI (mA 14) 40 LF2, ar cI (mA 13) 40 fRK, ar cI (mA 30) 40 gOW_19, ar cI (mA 31) 40 gRS_19, ar cI (mA 32) 40 gPD_19, ar cI (mA 33) 40 gWS_19, ar cI (mA 34) 10 gFA_19, ar cI (mA 5) 10 PU2, ar cI (mA 8) 40 fCR, ar cI (mA 7) 40 fDB] := hD
          refine lv_iload_n hx hb dX8_end_114 rfl (lv_at hl 1 rfl) ?_
          have ek : k = np := (by omega)
          rw [ek] at hs g1 g2
          have htd2 : td < 999 := (by have := sw_ne (z := 999) (by decide) c_12; have e9 : (999 : Int32).toInt = 999 := (by decide); obtain ⟨t1, t3⟩ := htd; rw [i32_le, e9] at t3; rw [i32_lt, e9]; omega)
          have hH : ∀ m, m < nm → (PU2 m).toInt = (fPU m).toInt + pS (fun k => (gPD_19 k).toInt) (dbN fCR) m np - pS (fun k => (gPD_19 k).toInt) (dbN fDB) m np := (fun m hm => by rw [g1, hasM_val hnp (fun q hq => ⟨(hpd q hq).1, by have := hpd q hq; omega⟩) HP.2.2.2.2.2.2 np (Nat.le_refl _) m hm])
          have hO : ∀ m, m < nm → (oweM gOW_19 gPD_19 (dbN fDB) (fun _ => 0) np m).toInt = pS (fun k => (gOW_19 k).toInt) (dbN fDB) m np - pS (fun k => (gPD_19 k).toInt) (dbN fDB) m np := (fun m hm => oweM_val hnp hpd (fun _ _ => ti0) np (Nat.le_refl _) m hm)
          have hres := clearRes_M HC hro1 w3 w4 w5 hH hO
          have hfil : PU2 = fil PU2 fPU nm := (by funext m; unfold fil; by_cases q : m < nm; rw [if_pos q]; rw [if_neg q, g1, hasM_out (fun k hk => ix_lt (hdb k hk)) (fun k hk => ix_lt (hcr k hk)) np (Nat.le_refl _) m (by omega)])
          exact ret sm ((nI R_19), (td + 1), gOW_19, gRS_19, gPD_19, gWS_19, gFA_19, PU2, LF2) _ _ _ _ dX8_end_115 (Or.inl ⟨htd2, rfl, ⟨_, _, _, ClearRes_congr hOW hRS hres, hfil⟩, hs, g2⟩) (hP) (hD) hS
        · skip
          have k_31 : ¬ np ≤ k := fun h9 => c_31 ((nI_leI (a := np) (b := k) (by omega) (by omega)).mpr h9)
          refine lv_aload_n hx hb dX8_end_34 rfl (lv_at hl 0 rfl) ?_
          refine va_get (D := D) (ci := 8) (v := .ref (mA 5)) (C := RX8) (T := TX8) (N := 44) hx hb hts inX8 hown hK hP 0 rfl rfl 5 (by decide) fl13 (fun _ h9 => h9) rfl dX8_end_35 ?_
          refine lv_aload_n hx hb dX8_end_38 rfl (lv_at hl 0 rfl) ?_
          refine va_get (D := D) (ci := 8) (v := .ref (mA 8)) (C := RX8) (T := TX8) (N := 44) hx hb hts inX8 hown hK hP 0 rfl rfl 8 (by decide) fl19 (fun _ h9 => h9) rfl dX8_end_39 ?_
          refine lv_iload_n hx hb dX8_end_42 rfl (lv_at hl 2 rfl) ?_
          refine m_iald (k := k) hx hb hK hP 11 0 rfl rfl (by omega) (by decide) dX8_end_43 ?_
          refine lv_dup2_11 hx hb dX8_end_44 rfl rfl ?_
          refine va_iald hx hb hK hP 10 0 rfl rfl (vp_wide (hcr k (by omega)) hnm) dX8_end_45 ?_
          refine lv_aload_n hx hb dX8_end_46 rfl (lv_at hl 0 rfl) ?_
          refine va_get (D := D) (ci := 8) (v := .ref (mA 32)) (C := RX8) (T := TX8) (N := 44) hx hb hts inX8 hown hK hP 0 rfl rfl 32 (by decide) fl66 (fun _ h9 => h9) rfl dX8_end_47 ?_
          refine lv_iload_n hx hb dX8_end_50 rfl (lv_at hl 2 rfl) ?_
          refine m_iald (k := k) hx hb hK hP 7 0 rfl rfl (by omega) (by decide) dX8_end_51 ?_
          refine lv_iadd hx hb dX8_end_52 ?_
          refine va_iast (x := ((PU2 (ix (fCR k))) + (gPD_19 k))) hx hb hK hP hD hS 10 0 rfl rfl (vp_wide (hcr k (by omega)) hnm) dX8_end_53 (fun H locs hP hD hS => ?_)
          have hP : va_P D vwCl [mo aM mA (nI nt) 0 td (nI nm) (nI np) isd ln rf rp sz nx kd wh pl rd (nI R_19) ic mcm mcp mcr, ar cI (mA 19) 20 fRU, ar cI (mA 15) 40 fDY, ar cI (mA 14) 40 LF2, ar cI (mA 13) 40 fRK, ar cI (mA 30) 40 gOW_19, ar cI (mA 31) 40 gRS_19, ar cI (mA 32) 40 gPD_19, ar cI (mA 33) 40 gWS_19, ar cI (mA 34) 10 gFA_19, ar cI (mA 5) 10 (upd PU2 (ix (fCR k)) ((PU2 (ix (fCR k))) + (gPD_19 k))), ar cI (mA 8) 40 fCR, ar cI (mA 7) 40 fDB] H := hP
          have hD : va_D A [mo aM mA (nI nt) 0 td (nI nm) (nI np) isd ln rf rp sz nx kd wh pl rd (nI R_19) ic mcm mcp mcr, ar cI (mA 19) 20 fRU, ar cI (mA 15) 40 fDY, ar cI (mA 14) 40 LF2, ar cI (mA 13) 40 fRK, ar cI (mA 30) 40 gOW_19, ar cI (mA 31) 40 gRS_19, ar cI (mA 32) 40 gPD_19, ar cI (mA 33) 40 gWS_19, ar cI (mA 34) 10 gFA_19, ar cI (mA 5) 10 (upd PU2 (ix (fCR k)) ((PU2 (ix (fCR k))) + (gPD_19 k))), ar cI (mA 8) 40 fCR, ar cI (mA 7) 40 fDB] := hD
          refine lv_aload_n hx hb dX8_end_54 rfl (lv_at hl 0 rfl) ?_
          refine va_get (D := D) (ci := 8) (v := .ref (mA 5)) (C := RX8) (T := TX8) (N := 44) hx hb hts inX8 hown hK hP 0 rfl rfl 5 (by decide) fl13 (fun _ h9 => h9) rfl dX8_end_55 ?_
          refine lv_aload_n hx hb dX8_end_58 rfl (lv_at hl 0 rfl) ?_
          refine va_get (D := D) (ci := 8) (v := .ref (mA 7)) (C := RX8) (T := TX8) (N := 44) hx hb hts inX8 hown hK hP 0 rfl rfl 7 (by decide) fl16 (fun _ h9 => h9) rfl dX8_end_59 ?_
          refine lv_iload_n hx hb dX8_end_62 rfl (lv_at hl 2 rfl) ?_
          refine m_iald (k := k) hx hb hK hP 12 0 rfl rfl (by omega) (by decide) dX8_end_63 ?_
          refine lv_dup2_11 hx hb dX8_end_64 rfl rfl ?_
          refine va_iald hx hb hK hP 10 0 rfl rfl (vp_wide (hdb k (by omega)) hnm) dX8_end_65 ?_
          refine lv_aload_n hx hb dX8_end_66 rfl (lv_at hl 0 rfl) ?_
          refine va_get (D := D) (ci := 8) (v := .ref (mA 32)) (C := RX8) (T := TX8) (N := 44) hx hb hts inX8 hown hK hP 0 rfl rfl 32 (by decide) fl66 (fun _ h9 => h9) rfl dX8_end_67 ?_
          refine lv_iload_n hx hb dX8_end_70 rfl (lv_at hl 2 rfl) ?_
          refine m_iald (k := k) hx hb hK hP 7 0 rfl rfl (by omega) (by decide) dX8_end_71 ?_
          refine lv_isub hx hb dX8_end_72 ?_
          refine va_iast (x := (((upd PU2 (ix (fCR k)) ((PU2 (ix (fCR k))) + (gPD_19 k))) (ix (fDB k))) - (gPD_19 k))) hx hb hK hP hD hS 10 0 rfl rfl (vp_wide (hdb k (by omega)) hnm) dX8_end_73 (fun H locs hP hD hS => ?_)
          have hP : va_P D vwCl [mo aM mA (nI nt) 0 td (nI nm) (nI np) isd ln rf rp sz nx kd wh pl rd (nI R_19) ic mcm mcp mcr, ar cI (mA 19) 20 fRU, ar cI (mA 15) 40 fDY, ar cI (mA 14) 40 LF2, ar cI (mA 13) 40 fRK, ar cI (mA 30) 40 gOW_19, ar cI (mA 31) 40 gRS_19, ar cI (mA 32) 40 gPD_19, ar cI (mA 33) 40 gWS_19, ar cI (mA 34) 10 gFA_19, ar cI (mA 5) 10 (upd (upd PU2 (ix (fCR k)) ((PU2 (ix (fCR k))) + (gPD_19 k))) (ix (fDB k)) (((upd PU2 (ix (fCR k)) ((PU2 (ix (fCR k))) + (gPD_19 k))) (ix (fDB k))) - (gPD_19 k))), ar cI (mA 8) 40 fCR, ar cI (mA 7) 40 fDB] H := hP
          have hD : va_D A [mo aM mA (nI nt) 0 td (nI nm) (nI np) isd ln rf rp sz nx kd wh pl rd (nI R_19) ic mcm mcp mcr, ar cI (mA 19) 20 fRU, ar cI (mA 15) 40 fDY, ar cI (mA 14) 40 LF2, ar cI (mA 13) 40 fRK, ar cI (mA 30) 40 gOW_19, ar cI (mA 31) 40 gRS_19, ar cI (mA 32) 40 gPD_19, ar cI (mA 33) 40 gWS_19, ar cI (mA 34) 10 gFA_19, ar cI (mA 5) 10 (upd (upd PU2 (ix (fCR k)) ((PU2 (ix (fCR k))) + (gPD_19 k))) (ix (fDB k)) (((upd PU2 (ix (fCR k)) ((PU2 (ix (fCR k))) + (gPD_19 k))) (ix (fDB k))) - (gPD_19 k))), ar cI (mA 8) 40 fCR, ar cI (mA 7) 40 fDB] := hD
          refine lv_aload_n hx hb dX8_end_74 rfl (lv_at hl 0 rfl) ?_
          refine va_get (D := D) (ci := 8) (v := .ref (mA 14)) (C := RX8) (T := TX8) (N := 44) hx hb hts inX8 hown hK hP 0 rfl rfl 14 (by decide) fl37 (fun _ h9 => h9) rfl dX8_end_75 ?_
          refine lv_iload_n hx hb dX8_end_78 rfl (lv_at hl 2 rfl) ?_
          refine lv_dup2_11 hx hb dX8_end_79 rfl rfl ?_
          refine m_iald (k := k) hx hb hK hP 3 0 rfl rfl (by omega) (by decide) dX8_end_80 ?_
          refine lv_aload_n hx hb dX8_end_81 rfl (lv_at hl 0 rfl) ?_
          refine va_get (D := D) (ci := 8) (v := .ref (mA 32)) (C := RX8) (T := TX8) (N := 44) hx hb hts inX8 hown hK hP 0 rfl rfl 32 (by decide) fl66 (fun _ h9 => h9) rfl dX8_end_82 ?_
          refine lv_iload_n hx hb dX8_end_85 rfl (lv_at hl 2 rfl) ?_
          refine m_iald (k := k) hx hb hK hP 7 0 rfl rfl (by omega) (by decide) dX8_end_86 ?_
          refine lv_isub hx hb dX8_end_87 ?_
          refine m_iast (k := k) (x := ((LF2 k) - (gPD_19 k))) hx hb hK hP hD hS 3 0 rfl rfl (by omega) (by decide) dX8_end_88 (fun H locs hP hD hS => ?_)
          have hP : va_P D vwCl [mo aM mA (nI nt) 0 td (nI nm) (nI np) isd ln rf rp sz nx kd wh pl rd (nI R_19) ic mcm mcp mcr, ar cI (mA 19) 20 fRU, ar cI (mA 15) 40 fDY, ar cI (mA 14) 40 (upd LF2 k ((LF2 k) - (gPD_19 k))), ar cI (mA 13) 40 fRK, ar cI (mA 30) 40 gOW_19, ar cI (mA 31) 40 gRS_19, ar cI (mA 32) 40 gPD_19, ar cI (mA 33) 40 gWS_19, ar cI (mA 34) 10 gFA_19, ar cI (mA 5) 10 (upd (upd PU2 (ix (fCR k)) ((PU2 (ix (fCR k))) + (gPD_19 k))) (ix (fDB k)) (((upd PU2 (ix (fCR k)) ((PU2 (ix (fCR k))) + (gPD_19 k))) (ix (fDB k))) - (gPD_19 k))), ar cI (mA 8) 40 fCR, ar cI (mA 7) 40 fDB] H := hP
          have hD : va_D A [mo aM mA (nI nt) 0 td (nI nm) (nI np) isd ln rf rp sz nx kd wh pl rd (nI R_19) ic mcm mcp mcr, ar cI (mA 19) 20 fRU, ar cI (mA 15) 40 fDY, ar cI (mA 14) 40 (upd LF2 k ((LF2 k) - (gPD_19 k))), ar cI (mA 13) 40 fRK, ar cI (mA 30) 40 gOW_19, ar cI (mA 31) 40 gRS_19, ar cI (mA 32) 40 gPD_19, ar cI (mA 33) 40 gWS_19, ar cI (mA 34) 10 gFA_19, ar cI (mA 5) 10 (upd (upd PU2 (ix (fCR k)) ((PU2 (ix (fCR k))) + (gPD_19 k))) (ix (fDB k)) (((upd PU2 (ix (fCR k)) ((PU2 (ix (fCR k))) + (gPD_19 k))) (ix (fDB k))) - (gPD_19 k))), ar cI (mA 8) 40 fCR, ar cI (mA 7) 40 fDB] := hD
          refine lv_iload_n hx hb dX8_end_89 rfl (lv_at hl 1 rfl) ?_
          refine lv_aload_n hx hb dX8_end_90 rfl (lv_at hl 0 rfl) ?_
          refine va_get (D := D) (ci := 8) (v := .ref (mA 32)) (C := RX8) (T := TX8) (N := 44) hx hb hts inX8 hown hK hP 0 rfl rfl 32 (by decide) fl66 (fun _ h9 => h9) rfl dX8_end_91 ?_
          refine lv_iload_n hx hb dX8_end_94 rfl (lv_at hl 2 rfl) ?_
          refine m_iald (k := k) hx hb hK hP 7 0 rfl rfl (by omega) (by decide) dX8_end_95 ?_
          refine lv_iadd hx hb dX8_end_96 ?_
          refine lv_istore_n (lv' := [(1, .int (sm + (gPD_19 k))), (0, .ref aM), (2, .int (nI k))]) hx hb dX8_end_97 rfl hl (by decide) rfl (fun ls hl => ?_)
          refine lv_iinc (v := (nI (k + 1))) (lv' := [(2, .int (nI (k + 1))), (1, .int (sm + (gPD_19 k))), (0, .ref aM)]) hx hb dX8_end_98 hl (k := 2) rfl (nI_inc k 1 (by decide)) (by decide) rfl (fun ls hl => ?_)
          refine lv_goto (tgt := 26) hx hb dX8_end_101 (by decide) ?_
          exact ih_26 (k + 1) (sm + (gPD_19 k)) (upd (upd PU2 (ix (fCR k)) ((PU2 (ix (fCR k))) + (gPD_19 k))) (ix (fDB k)) (((upd PU2 (ix (fCR k)) ((PU2 (ix (fCR k))) + (gPD_19 k))) (ix (fDB k))) - (gPD_19 k))) (upd LF2 k ((LF2 k) - (gPD_19 k))) (by omega) (by omega) (by rw [hs]; rfl) (by rw [g1]; rfl) (fil_step g2 (by rw [fil_at g2])) _ _ (hP) (hD) hS ls (lv_sub hl [2, 1, 0] rfl)
    exact L_26 ((np - 0) + 1) 0 0 fPU fLF (Nat.lt_succ_self _) (by omega) (rfl) (rfl) (fil_0.symm) _ _ (hP) (hD) hS ls (lv_sub hl [2, 1, 0] rfl)
  · skip
    refine lv_iconst (v := (-1)) hx hb dX8_end_15 (by decide) ?_
    exact ret (-1) (rn, td, fOW, fRS, fPD, fWS, fFA, fPU, fLF) _ _ _ _ dX8_end_16 (Or.inr ⟨by rw [c_12]; decide, rfl, rfl, rfl, rfl⟩) (hP) (hD) hS
