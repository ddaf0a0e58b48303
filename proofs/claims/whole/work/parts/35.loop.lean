theorem lp_in {L j : Nat} (hL : L ≤ 3072) (hj : 6 * j ≤ 3072) (q : ¬ (Int32.ofNat L - 6 : Int32) < nI (6 * j)) : 6 * j + 6 ≤ L := by
  have e6 : (6 : Int32).toInt = 6 := by decide
  have eL : (Int32.ofNat L).toInt = L := nI_toInt (n := L) (by omega)
  have es : (Int32.ofNat L - 6 : Int32).toInt = L - 6 := by rw [i32_sub (by rw [eL, e6]; omega) (by rw [eL, e6]; omega), eL, e6]
  rw [i32_lt, es, nI_toInt (by omega)] at q
  omega
theorem lp_lt {L j : Nat} (hL : L ≤ 3072) (hj : 6 * j ≤ 3072) (h : L < 6 * j + 6 * 0) : (Int32.ofNat L - 6 : Int32) < nI (6 * j) := by
  have e6 : (6 : Int32).toInt = 6 := by decide
  have eL : (Int32.ofNat L).toInt = L := nI_toInt (n := L) (by omega)
  have es : (Int32.ofNat L - 6 : Int32).toInt = L - 6 := by rw [i32_sub (by rw [eL, e6]; omega) (by rw [eL, e6]; omega), eL, e6]
  rw [i32_lt, es, nI_toInt (by omega)]
  omega
theorem lp_up (j : Nat) : nI (6 * j) + Int32.ofInt ((6 : Nat) : Int) = nI (6 * (j + 1)) := by
  have e : Int32.ofInt ((6 : Nat) : Int) = nI 6 := by decide
  rw [e, nI_add]
  congr 1
section LLOOP
variable {p : Program} {l : Launch} {e : Env} {s : State} {m : MethodId} {below : List Frame} {meth : Method} {c : Code} {b L : Nat} {xs : Nat → Int32} {D : va_G} {cI cZ cL : ClassId} {ad adv : Nat → Nat}
variable {aBK : Nat} {aT : Nat} {aPU : Nat} {aP : Nat} {aTD : Nat} {aTC : Nat} {aTK : Nat} {aTR : Nat} {aDY : Nat} {aCP : Nat} {aDB : Nat} {aCR : Nat} {aRK : Nat} {aLF : Nat} {aTA : Nat} {aBY : Nat} {aR : Nat} {aTX : Nat} {aB : Nat} {aOP : Nat} {aPY : Nat} {aGT : Nat} {aCO : Nat} {aD0 : Nat} {aCU0 : Nat} {aMV0 : Nat} {aC : Nat} {aPD : Nat} {aOR : Nat} {aHS : Nat} {aUN : Nat} {aFA : Nat} {aLO : Nat} {aLA : Nat} {aCE : Nat} {aPDE : Nat} {aORE : Nat} {aHSE : Nat} {aUNE : Nat} {aFAE : Nat} {aLOE : Nat} {aLAE : Nat} {aM : Nat} {aO : Nat} {mA : Nat → Nat} {fCU0 : Nat → Int32} {fMV0 : Nat → Int32} {fWD : Nat → Int32}
set_option maxHeartbeats 4000000 in
set_option maxRecDepth 100000 in
theorem st_disp {aD : Nat} {aCU : Nat} {aMV : Nat} {aD2 : Nat} {aCU2 : Nat} {aMV2 : Nat} {nm : Nat} {np : Nat} {nt : Nat} {cm : Nat} {cpn : Nat} {td : Int32} {isd : Int32} {rf : Int32} {rp : Int32} {sp : Int32} {bf : Int32} {ln : Int32} {sp2 : Int32} {bf2 : Int32} {ln2 : Int32} {ql : Int32} {qk : Int32} {qs : Int32} {qn : Int32} {b0 : Int32} {cr : Int32} {z0 : Int32} {z1 : Int32} {z2 : Int32} {th : Int32} {sz : Int32} {nx : Int32} {kd : Int32} {wh : Int32} {pl : Int32} {rd : Int32} {krn : Int32} {ic : Int32} {mcr : Int32} {fPU : Nat → Int32} {fTD : Nat → Int32} {fTC : Nat → Int32} {fTK : Nat → Int32} {fTR : Nat → Int32} {fDY : Nat → Int32} {fCP : Nat → Int32} {fDB : Nat → Int32} {fCR : Nat → Int32} {fRK : Nat → Int32} {fLF : Nat → Int32} {fBY : Nat → Int32} {fTX : Nat → Int32} {fOP : Nat → Int32} {fPY : Nat → Int32} {fGT : Nat → Int32} {fCO : Nat → Int32} {fPD : Nat → Int32} {fOR : Nat → Int32} {fHS : Nat → Int32} {fUN : Nat → Int32} {fFA : Nat → Int32} {fLO : Nat → Int32} {fLA : Nat → Int32} {fPDE : Nat → Int32} {fORE : Nat → Int32} {fHSE : Nat → Int32} {fUNE : Nat → Int32} {fFAE : Nat → Int32} {fLOE : Nat → Int32} {fLAE : Nat → Int32} {fCU : Nat → Int32} {fMV : Nat → Int32} {fCU2 : Nat → Int32} {fMV2 : Nat → Int32} {fRU : Nat → Int32} {fNT : Nat → Int32} {fOW : Nat → Int32} {fRS : Nat → Int32} {kPD : Nat → Int32} {fWS : Nat → Int32} {kFA : Nat → Int32} {fcP : Nat → Int32} {fcH : Nat → Int32} {fcF : Nat → Int32} {fcO : Nat → Int32} {fO : Nat → Int64} (C0 : LC p l s m meth c b L xs D cI cZ cL ad adv fCU0 fMV0 fWD) {j : Nat} (hj : 6 * j + 6 ≤ L) (I : LI j nm np nt cm cpn td isd sp bf cr ic mcr fPU fDB fCR fRK fLF fPD fHS fUN fFA fCU fMV fRU fcP fcH fcF fcO) (cont : ∀ (aD : Nat) (aCU : Nat) (aMV : Nat) (aD2 : Nat) (aCU2 : Nat) (aMV2 : Nat) (nm : Nat) (np : Nat) (nt : Nat) (cm : Nat) (cpn : Nat) (td : Int32) (isd : Int32) (rf : Int32) (rp : Int32) (sp : Int32) (bf : Int32) (ln : Int32) (sp2 : Int32) (bf2 : Int32) (ln2 : Int32) (ql : Int32) (qk : Int32) (qs : Int32) (qn : Int32) (b0 : Int32) (cr : Int32) (z0 : Int32) (z1 : Int32) (z2 : Int32) (th : Int32) (sz : Int32) (nx : Int32) (kd : Int32) (wh : Int32) (pl : Int32) (rd : Int32) (krn : Int32) (ic : Int32) (mcr : Int32) (fPU : Nat → Int32) (fTD : Nat → Int32) (fTC : Nat → Int32) (fTK : Nat → Int32) (fTR : Nat → Int32) (fDY : Nat → Int32) (fCP : Nat → Int32) (fDB : Nat → Int32) (fCR : Nat → Int32) (fRK : Nat → Int32) (fLF : Nat → Int32) (fBY : Nat → Int32) (fTX : Nat → Int32) (fOP : Nat → Int32) (fPY : Nat → Int32) (fGT : Nat → Int32) (fCO : Nat → Int32) (fPD : Nat → Int32) (fOR : Nat → Int32) (fHS : Nat → Int32) (fUN : Nat → Int32) (fFA : Nat → Int32) (fLO : Nat → Int32) (fLA : Nat → Int32) (fPDE : Nat → Int32) (fORE : Nat → Int32) (fHSE : Nat → Int32) (fUNE : Nat → Int32) (fFAE : Nat → Int32) (fLOE : Nat → Int32) (fLAE : Nat → Int32) (fCU : Nat → Int32) (fMV : Nat → Int32) (fCU2 : Nat → Int32) (fMV2 : Nat → Int32) (fRU : Nat → Int32) (fNT : Nat → Int32) (fOW : Nat → Int32) (fRS : Nat → Int32) (kPD : Nat → Int32) (fWS : Nat → Int32) (kFA : Nat → Int32) (fcP : Nat → Int32) (fcH : Nat → Int32) (fcF : Nat → Int32) (fcO : Nat → Int32) (fO : Nat → Int64), LI (j + 1) nm np nt cm cpn td isd sp bf cr ic mcr fPU fDB fCR fRK fLF fPD fHS fUN fFA fCU fMV fRU fcP fcH fcF fcO → LAt p l e s m below meth c b D cI cZ cL aBK aT aPU aP aTD aTC aTK aTR aDY aCP aDB aCR aRK aLF aTA aBY aR aTX aB aOP aPY aGT aCO aD0 aCU0 aMV0 aC aPD aOR aHS aUN aFA aLO aLA aCE aPDE aORE aHSE aUNE aFAE aLOE aLAE aM aO mA fCU0 fMV0 fWD 757 (74 + (j + 1)) (2455 + 6 * (j + 1)) j aD aCU aMV aD2 aCU2 aMV2 nm np nt cm cpn td isd rf rp sp bf ln sp2 bf2 ln2 ql qk qs qn b0 cr z0 z1 z2 th sz nx kd wh pl rd krn ic mcr fPU fTD fTC fTK fTR fDY fCP fDB fCR fRK fLF fBY fTX fOP fPY fGT fCO fPD fOR fHS fUN fFA fLO fLA fPDE fORE fHSE fUNE fFAE fLOE fLAE fCU fMV fCU2 fMV2 fRU fNT fOW fRS kPD fWS kFA fcP fcH fcF fcO fO) : LAt p l e s m below meth c b D cI cZ cL aBK aT aPU aP aTD aTC aTK aTR aDY aCP aDB aCR aRK aLF aTA aBY aR aTX aB aOP aPY aGT aCO aD0 aCU0 aMV0 aC aPD aOR aHS aUN aFA aLO aLA aCE aPDE aORE aHSE aUNE aFAE aLOE aLAE aM aO mA fCU0 fMV0 fWD 33 (74 + j) (2455 + 6 * j) j aD aCU aMV aD2 aCU2 aMV2 nm np nt cm cpn td isd rf rp sp bf ln sp2 bf2 ln2 ql qk qs qn b0 cr z0 z1 z2 th sz nx kd wh pl rd krn ic mcr fPU fTD fTC fTK fTR fDY fCP fDB fCR fRK fLF fBY fTX fOP fPY fGT fCO fPD fOR fHS fUN fFA fLO fLA fPDE fORE fHSE fUNE fFAE fLOE fLAE fCU fMV fCU2 fMV2 fRU fNT fOW fRS kPD fWS kFA fcP fcH fcF fcO fO := by
  obtain ⟨hst, hL, hC, -⟩ := id C0
  obtain ⟨hx, hb, hr, hml, hown, hts, hX, hbl, hlocks, hgv⟩ := hC
  have hbA : ¬ (fun q : Nat => s.heap.size ≤ q) b := Nat.not_le.mpr hbl
  intro H locs hP hD hS ls hl
  refine lv_aload_n hx hb dL_law_33 rfl (lv_at hl 0 rfl) ?_
  refine lv_iload hx hb dL_law_34 (lv_at hl 4 rfl) ?_
  refine va_sld hx hb hX hbl hbA hS (vp_in_nI (by omega) (by omega)) dL_law_36 ?_
  refine lv_bipush (v := 31) hx hb dL_law_37 (by decide) ?_
  refine lv_iand hx hb dL_law_39 ?_
  generalize xs (nI (6 * j)).toNatClampNeg &&& 31 = x
  by_cases e_0 : x = 0
  · refine lv_tableIn (tgt := 128) hx hb dL_law_40 (by rw [e_0]; decide) (by rw [e_0]; decide) (by rw [e_0]; rfl) (by decide) ?_
    exact st_feed C0 hj I cont H locs hP hD hS ls hl
  by_cases e_1 : x = 1
  · refine lv_tableIn (tgt := 201) hx hb dL_law_40 (by rw [e_1]; decide) (by rw [e_1]; decide) (by rw [e_1]; rfl) (by decide) ?_
    exact st_man C0 hj I cont H locs hP hD hS ls hl
  by_cases e_2 : x = 2
  · refine lv_tableIn (tgt := 226) hx hb dL_law_40 (by rw [e_2]; decide) (by rw [e_2]; decide) (by rw [e_2]; rfl) (by decide) ?_
    exact st_paper C0 hj I cont H locs hP hD hS ls hl
  by_cases e_3 : x = 3
  · refine lv_tableIn (tgt := 287) hx hb dL_law_40 (by rw [e_3]; decide) (by rw [e_3]; decide) (by rw [e_3]; rfl) (by decide) ?_
    exact st_look C0 hj I cont H locs hP hD hS ls hl
  by_cases e_4 : x = 4
  · refine lv_tableIn (tgt := 355) hx hb dL_law_40 (by rw [e_4]; decide) (by rw [e_4]; decide) (by rw [e_4]; rfl) (by decide) ?_
    exact st_pass C0 hj I cont H locs hP hD hS ls hl
  by_cases e_5 : x = 5
  · refine lv_tableIn (tgt := 380) hx hb dL_law_40 (by rw [e_5]; decide) (by rw [e_5]; decide) (by rw [e_5]; rfl) (by decide) ?_
    exact st_purse C0 hj I cont H locs hP hD hS ls hl
  by_cases e_6 : x = 6
  · refine lv_tableIn (tgt := 405) hx hb dL_law_40 (by rw [e_6]; decide) (by rw [e_6]; decide) (by rw [e_6]; rfl) (by decide) ?_
    exact st_net C0 hj I cont H locs hP hD hS ls hl
  by_cases e_7 : x = 7
  · refine lv_tableIn (tgt := 430) hx hb dL_law_40 (by rw [e_7]; decide) (by rw [e_7]; decide) (by rw [e_7]; rfl) (by decide) ?_
    exact st_thread C0 hj I cont H locs hP hD hS ls hl
  by_cases e_8 : x = 8
  · refine lv_tableIn (tgt := 443) hx hb dL_law_40 (by rw [e_8]; decide) (by rw [e_8]; decide) (by rw [e_8]; rfl) (by decide) ?_
    exact st_move C0 hj I cont H locs hP hD hS ls hl
  by_cases e_9 : x = 9
  · refine lv_tableIn (tgt := 480) hx hb dL_law_40 (by rw [e_9]; decide) (by rw [e_9]; decide) (by rw [e_9]; rfl) (by decide) ?_
    exact st_boat C0 hj I cont H locs hP hD hS ls hl
  by_cases e_10 : x = 10
  · refine lv_tableIn (tgt := 541) hx hb dL_law_40 (by rw [e_10]; decide) (by rw [e_10]; decide) (by rw [e_10]; rfl) (by decide) ?_
    exact st_heir C0 hj I cont H locs hP hD hS ls hl
  by_cases e_11 : x = 11
  · refine lv_tableIn (tgt := 578) hx hb dL_law_40 (by rw [e_11]; decide) (by rw [e_11]; decide) (by rw [e_11]; rfl) (by decide) ?_
    exact st_decree C0 hj I cont H locs hP hD hS ls hl
  by_cases e_12 : x = 12
  · refine lv_tableIn (tgt := 603) hx hb dL_law_40 (by rw [e_12]; decide) (by rw [e_12]; decide) (by rw [e_12]; rfl) (by decide) ?_
    exact st_fault C0 hj I cont H locs hP hD hS ls hl
  by_cases e_13 : x = 13
  · refine lv_tableIn (tgt := 628) hx hb dL_law_40 (by rw [e_13]; decide) (by rw [e_13]; decide) (by rw [e_13]; rfl) (by decide) ?_
    exact st_clear C0 hj I cont H locs hP hD hS ls hl
  by_cases e_14 : x = 14
  · refine lv_tableIn (tgt := 669) hx hb dL_law_40 (by rw [e_14]; decide) (by rw [e_14]; decide) (by rw [e_14]; rfl) (by decide) ?_
    exact st_cleared C0 hj I cont H locs hP hD hS ls hl
  by_cases e_15 : x = 15
  · refine lv_tableIn (tgt := 706) hx hb dL_law_40 (by rw [e_15]; decide) (by rw [e_15]; decide) (by rw [e_15]; rfl) (by decide) ?_
    exact st_enact C0 hj I cont H locs hP hD hS ls hl
  by_cases e_16 : x = 16
  · refine lv_tableIn (tgt := 719) hx hb dL_law_40 (by rw [e_16]; decide) (by rw [e_16]; decide) (by rw [e_16]; rfl) (by decide) ?_
    exact st_end C0 hj I cont H locs hP hD hS ls hl
  by_cases e_17 : x = 17
  · refine lv_tableIn (tgt := 732) hx hb dL_law_40 (by rw [e_17]; decide) (by rw [e_17]; decide) (by rw [e_17]; rfl) (by decide) ?_
    exact st_count C0 hj I cont H locs hP hD hS ls hl
  refine lv_tableOut (tgt := 757) hx hb dL_law_40 (by have t0 := sw_ne (z := 0) (by decide) e_0; have t1 := sw_ne (z := 1) (by decide) e_1; have t2 := sw_ne (z := 2) (by decide) e_2; have t3 := sw_ne (z := 3) (by decide) e_3; have t4 := sw_ne (z := 4) (by decide) e_4; have t5 := sw_ne (z := 5) (by decide) e_5; have t6 := sw_ne (z := 6) (by decide) e_6; have t7 := sw_ne (z := 7) (by decide) e_7; have t8 := sw_ne (z := 8) (by decide) e_8; have t9 := sw_ne (z := 9) (by decide) e_9; have t10 := sw_ne (z := 10) (by decide) e_10; have t11 := sw_ne (z := 11) (by decide) e_11; have t12 := sw_ne (z := 12) (by decide) e_12; have t13 := sw_ne (z := 13) (by decide) e_13; have t14 := sw_ne (z := 14) (by decide) e_14; have t15 := sw_ne (z := 15) (by decide) e_15; have t16 := sw_ne (z := 16) (by decide) e_16; have t17 := sw_ne (z := 17) (by decide) e_17; omega) (by decide) ?_
  refine W.widen (k := 74 + (j + 1)) (n := 2455 + 6 * (j + 1)) (by omega) (by omega) ?_
  exact cont aD aCU aMV aD2 aCU2 aMV2 nm np nt cm cpn td isd rf rp sp bf ln sp2 bf2 ln2 ql qk qs qn b0 cr z0 z1 z2 th sz nx kd wh pl rd krn ic mcr fPU fTD fTC fTK fTR fDY fCP fDB fCR fRK fLF fBY fTX fOP fPY fGT fCO fPD fOR fHS fUN fFA fLO fLA fPDE fORE fHSE fUNE fFAE fLOE fLAE fCU fMV fCU2 fMV2 fRU fNT fOW fRS kPD fWS kFA fcP fcH fcF fcO fO ⟨I.1.up, I.2⟩ H locs hP hD hS ls hl
set_option maxHeartbeats 4000000 in
set_option maxRecDepth 100000 in
theorem law_loop (C0 : LC p l s m meth c b L xs D cI cZ cL ad adv fCU0 fMV0 fWD) : ∀ (n j : Nat) (aD : Nat) (aCU : Nat) (aMV : Nat) (aD2 : Nat) (aCU2 : Nat) (aMV2 : Nat) (nm : Nat) (np : Nat) (nt : Nat) (cm : Nat) (cpn : Nat) (td : Int32) (isd : Int32) (rf : Int32) (rp : Int32) (sp : Int32) (bf : Int32) (ln : Int32) (sp2 : Int32) (bf2 : Int32) (ln2 : Int32) (ql : Int32) (qk : Int32) (qs : Int32) (qn : Int32) (b0 : Int32) (cr : Int32) (z0 : Int32) (z1 : Int32) (z2 : Int32) (th : Int32) (sz : Int32) (nx : Int32) (kd : Int32) (wh : Int32) (pl : Int32) (rd : Int32) (krn : Int32) (ic : Int32) (mcr : Int32) (fPU : Nat → Int32) (fTD : Nat → Int32) (fTC : Nat → Int32) (fTK : Nat → Int32) (fTR : Nat → Int32) (fDY : Nat → Int32) (fCP : Nat → Int32) (fDB : Nat → Int32) (fCR : Nat → Int32) (fRK : Nat → Int32) (fLF : Nat → Int32) (fBY : Nat → Int32) (fTX : Nat → Int32) (fOP : Nat → Int32) (fPY : Nat → Int32) (fGT : Nat → Int32) (fCO : Nat → Int32) (fPD : Nat → Int32) (fOR : Nat → Int32) (fHS : Nat → Int32) (fUN : Nat → Int32) (fFA : Nat → Int32) (fLO : Nat → Int32) (fLA : Nat → Int32) (fPDE : Nat → Int32) (fORE : Nat → Int32) (fHSE : Nat → Int32) (fUNE : Nat → Int32) (fFAE : Nat → Int32) (fLOE : Nat → Int32) (fLAE : Nat → Int32) (fCU : Nat → Int32) (fMV : Nat → Int32) (fCU2 : Nat → Int32) (fMV2 : Nat → Int32) (fRU : Nat → Int32) (fNT : Nat → Int32) (fOW : Nat → Int32) (fRS : Nat → Int32) (kPD : Nat → Int32) (fWS : Nat → Int32) (kFA : Nat → Int32) (fcP : Nat → Int32) (fcH : Nat → Int32) (fcF : Nat → Int32) (fcO : Nat → Int32) (fO : Nat → Int64), L < 6 * j + 6 * n → 6 * j ≤ 3072 → LI j nm np nt cm cpn td isd sp bf cr ic mcr fPU fDB fCR fRK fLF fPD fHS fUN fFA fCU fMV fRU fcP fcH fcF fcO → LAt p l e s m below meth c b D cI cZ cL aBK aT aPU aP aTD aTC aTK aTR aDY aCP aDB aCR aRK aLF aTA aBY aR aTX aB aOP aPY aGT aCO aD0 aCU0 aMV0 aC aPD aOR aHS aUN aFA aLO aLA aCE aPDE aORE aHSE aUNE aFAE aLOE aLAE aM aO mA fCU0 fMV0 fWD 23 (74 + j) (2455 + 6 * j) j aD aCU aMV aD2 aCU2 aMV2 nm np nt cm cpn td isd rf rp sp bf ln sp2 bf2 ln2 ql qk qs qn b0 cr z0 z1 z2 th sz nx kd wh pl rd krn ic mcr fPU fTD fTC fTK fTR fDY fCP fDB fCR fRK fLF fBY fTX fOP fPY fGT fCO fPD fOR fHS fUN fFA fLO fLA fPDE fORE fHSE fUNE fFAE fLOE fLAE fCU fMV fCU2 fMV2 fRU fNT fOW fRS kPD fWS kFA fcP fcH fcF fcO fO := by
  obtain ⟨hst, hL, hC, -⟩ := id C0
  obtain ⟨hx, hb, hr, hml, hown, hts, hX, hbl, hlocks, hgv⟩ := hC
  have hbA : ¬ (fun q : Nat => s.heap.size ≤ q) b := Nat.not_le.mpr hbl
  intro n
  induction n with
  | zero =>
    intro j aD aCU aMV aD2 aCU2 aMV2 nm np nt cm cpn td isd rf rp sp bf ln sp2 bf2 ln2 ql qk qs qn b0 cr z0 z1 z2 th sz nx kd wh pl rd krn ic mcr fPU fTD fTC fTK fTR fDY fCP fDB fCR fRK fLF fBY fTX fOP fPY fGT fCO fPD fOR fHS fUN fFA fLO fLA fPDE fORE fHSE fUNE fFAE fLOE fLAE fCU fMV fCU2 fMV2 fRU fNT fOW fRS kPD fWS kFA fcP fcH fcF fcO fO hn hj I H locs hP hD hS ls hl
    refine lv_iload hx hb dL_law_23 (lv_at hl 4 rfl) ?_
    refine lv_aload_n hx hb dL_law_25 rfl (lv_at hl 0 rfl) ?_
    refine va_slen hx hb hX hbl hbA hS dL_law_26 ?_
    refine lv_bipush (v := 6) hx hb dL_law_27 (by decide) ?_
    refine lv_isub hx hb dL_law_29 ?_
    refine lv_icmp_gt (tgt := 763) hx hb dL_law_30 (by decide) (fun q => ?_) (fun q => absurd (lp_lt (by omega) (by omega) (by omega)) q)
    refine lv_iconst (v := 1) hx hb dL_law_763 (by decide) ?_
    refine va_forget (fun q hq => hS.2.2 q hq) ?_
    refine W.widen (k := 1100) (n := 10659) (by omega) (by omega) ?_
    exact lw_ret hx hb hr hlocks dL_law_764
  | succ n ih =>
    intro j aD aCU aMV aD2 aCU2 aMV2 nm np nt cm cpn td isd rf rp sp bf ln sp2 bf2 ln2 ql qk qs qn b0 cr z0 z1 z2 th sz nx kd wh pl rd krn ic mcr fPU fTD fTC fTK fTR fDY fCP fDB fCR fRK fLF fBY fTX fOP fPY fGT fCO fPD fOR fHS fUN fFA fLO fLA fPDE fORE fHSE fUNE fFAE fLOE fLAE fCU fMV fCU2 fMV2 fRU fNT fOW fRS kPD fWS kFA fcP fcH fcF fcO fO hn hj I H locs hP hD hS ls hl
    refine lv_iload hx hb dL_law_23 (lv_at hl 4 rfl) ?_
    refine lv_aload_n hx hb dL_law_25 rfl (lv_at hl 0 rfl) ?_
    refine va_slen hx hb hX hbl hbA hS dL_law_26 ?_
    refine lv_bipush (v := 6) hx hb dL_law_27 (by decide) ?_
    refine lv_isub hx hb dL_law_29 ?_
    refine lv_icmp_gt (tgt := 763) hx hb dL_law_30 (by decide) (fun q => ?_) (fun q => ?_)
    · refine lv_iconst (v := 1) hx hb dL_law_763 (by decide) ?_
      refine va_forget (fun q hq => hS.2.2 q hq) ?_
      refine W.widen (k := 1100) (n := 10659) (by omega) (by omega) ?_
      exact lw_ret hx hb hr hlocks dL_law_764
    · have hj6 : 6 * j + 6 ≤ L := lp_in (by omega) (by omega) q
      refine st_disp C0 hj6 I (fun aD aCU aMV aD2 aCU2 aMV2 nm np nt cm cpn td isd rf rp sp bf ln sp2 bf2 ln2 ql qk qs qn b0 cr z0 z1 z2 th sz nx kd wh pl rd krn ic mcr fPU fTD fTC fTK fTR fDY fCP fDB fCR fRK fLF fBY fTX fOP fPY fGT fCO fPD fOR fHS fUN fFA fLO fLA fPDE fORE fHSE fUNE fFAE fLOE fLAE fCU fMV fCU2 fMV2 fRU fNT fOW fRS kPD fWS kFA fcP fcH fcF fcO fO I H locs hP hD hS ls hl => ?_) H locs hP hD hS ls hl
      refine lv_iinc (k := 4) (v := nI (6 * (j + 1))) (lv' := [(4, .int (nI (6 * (j + 1)))), (0, .ref b), (1, .ref aBK), (2, .ref aM), (3, .ref aO)]) hx hb dL_law_757 hl rfl (by rw [show (6 : Int) = ((6 : Nat) : Int) from rfl]; exact lp_up j) (by decide) rfl (fun ls hl => ?_)
      refine lv_goto (tgt := 23) hx hb dL_law_760 (by decide) ?_
      exact ih (j + 1) aD aCU aMV aD2 aCU2 aMV2 nm np nt cm cpn td isd rf rp sp bf ln sp2 bf2 ln2 ql qk qs qn b0 cr z0 z1 z2 th sz nx kd wh pl rd krn ic mcr fPU fTD fTC fTK fTR fDY fCP fDB fCR fRK fLF fBY fTX fOP fPY fGT fCO fPD fOR fHS fUN fFA fLO fLA fPDE fORE fHSE fUNE fFAE fLOE fLAE fCU fMV fCU2 fMV2 fRU fNT fOW fRS kPD fWS kFA fcP fcH fcF fcO fO (by omega) (by omega) I H locs hP hD hS ls (lv_sub hl [1, 2, 3, 4, 0] rfl)
end LLOOP
