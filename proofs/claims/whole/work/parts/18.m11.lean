abbrev r_c_X8_pays : Room := { frames := 0, cells := 0, slots := 0, locals := 0 }
set_option maxHeartbeats 4000000 in
set_option maxRecDepth 100000 in
theorem c_X8_pays (l : Launch) (D : va_G) (cI cZ : ClassId) (aM : Nat) (mA : Nat → Nat) (nt : Nat) (th : Int32) (td : Int32) (nm : Nat) (np : Nat) (isd : Int32) (ln : Int32) (rf : Int32) (rp : Int32) (sz : Int32) (nx : Int32) (kd : Int32) (wh : Int32) (pl : Int32) (rd : Int32) (rn : Int32) (ic : Int32) (mcm : Int32) (mcp : Int32) (mcr : Int32) (fPU : Nat → Int32) (fCR : Nat → Int32) (fWS : Nat → Int32) (fDB : Nat → Int32) (fRS : Nat → Int32) (fOW : Nat → Int32) (fPD : Nat → Int32) (fFA : Nat → Int32) (mm : Nat) (rnd : Nat) (HC : PYc np nm mm fDB fCR fRS fOW fWS (fPU mm).toInt) : MI l yX8_pays wsX8_pays r_c_X8_pays D cI cZ [.ref aM, .int (nI mm), .int (nI rnd)] [mo aM mA (nI nt) th td (nI nm) (nI np) isd ln rf rp sz nx kd wh pl rd rn ic mcm mcp mcr, ar cI (mA 5) 10 fPU, ar cI (mA 8) 40 fCR, ar cI (mA 33) 40 fWS, ar cI (mA 7) 40 fDB, ar cI (mA 31) 40 fRS, ar cI (mA 30) 40 fOW, ar cI (mA 32) 40 fPD, ar cI (mA 34) 10 fFA] (fun (r : Int32) (u : (Nat → Int32) × (Nat → Int32)) => (∀ i, i < np → dbN fDB (odF fRS np i) = mm → (u.1 (odF fRS np i)).toInt = fillP (dbN fDB) (owG fOW np) (odF fRS np) mm ((fPU mm).toInt + recS fCR fWS mm np) i) ∧ (∀ q, q < np → ¬ dbN fDB q = mm → u.1 q = fPD q) ∧ ((r = 1 ∧ ∃ i, i < np ∧ dbN fDB (odF fRS np i) = mm ∧ ¬ fillP (dbN fDB) (owG fOW np) (odF fRS np) mm ((fPU mm).toInt + recS fCR fWS mm np) i = (fWS (odF fRS np i)).toInt) ∨ (r = 0 ∧ ∀ i, i < np → dbN fDB (odF fRS np i) = mm → fillP (dbN fDB) (owG fOW np) (odF fRS np) mm ((fPU mm).toInt + recS fCR fWS mm np) i = (fWS (odF fRS np i)).toInt)) ∧ ((u.2 = upd fFA mm (nI rnd) ∧ fFA mm = 0 ∧ ∃ i, i < np ∧ dbN fDB (odF fRS np i) = mm ∧ fillP (dbN fDB) (owG fOW np) (odF fRS np) mm ((fPU mm).toInt + recS fCR fWS mm np) i < owG fOW np (odF fRS np i)) ∨ (u.2 = fFA ∧ (¬ fFA mm = 0 ∨ ∀ i, i < np → dbN fDB (odF fRS np i) = mm → ¬ fillP (dbN fDB) (owG fOW np) (odF fRS np) mm ((fPU mm).toInt + recS fCR fWS mm np) i < owG fOW np (odF fRS np i))))) (fun (u : (Nat → Int32) × (Nat → Int32)) => [mo aM mA (nI nt) th td (nI nm) (nI np) isd ln rf rp sz nx kd wh pl rd rn ic mcm mcp mcr, ar cI (mA 5) 10 fPU, ar cI (mA 8) 40 fCR, ar cI (mA 33) 40 fWS, ar cI (mA 7) 40 fDB, ar cI (mA 31) 40 fRS, ar cI (mA 30) 40 fOW, ar cI (mA 32) 40 u.1, ar cI (mA 34) 10 u.2]) 0 0 := by
  refine MI.ofZ (cc := cX8_pays) (maxL := 8) (by decide) rfl (Nat.le_of_ble_eq_true rfl) ?_
  intro p e s m below meth c A Q hx hb hml hown hts hN hK hA ret hP hD hS ls hl
  have hown : s.vm.findClass RX8 = some m.cls := hown
  have inX8 : ∀ w ∈ wsX80, w ∈ wsX8_pays := by decide +kernel
  have fl13 := hts (.fieldLink RX8 13 "AdvanceBookModel" "purse" "[I") (by decide +kernel)
  have fl16 := hts (.fieldLink RX8 16 "AdvanceBookModel" "debtor" "[I") (by decide +kernel)
  have fl19 := hts (.fieldLink RX8 19 "AdvanceBookModel" "creditor" "[I") (by decide +kernel)
  have fl60 := hts (.fieldLink RX8 60 "AdvanceBookModel" "owed" "[I") (by decide +kernel)
  have fl63 := hts (.fieldLink RX8 63 "AdvanceBookModel" "ranks" "[I") (by decide +kernel)
  have fl66 := hts (.fieldLink RX8 66 "AdvanceBookModel" "paid" "[I") (by decide +kernel)
  have fl69 := hts (.fieldLink RX8 69 "AdvanceBookModel" "was" "[I") (by decide +kernel)
  have fl72 := hts (.fieldLink RX8 72 "AdvanceBookModel" "failed" "[I") (by decide +kernel)
  have fl101 := hts (.fieldLink RX8 101 "AdvanceBookModel" "papers" "I") (by decide +kernel)
  have hP : va_P D vwCl [mo aM mA (nI nt) th td (nI nm) (nI np) isd ln rf rp sz nx kd wh pl rd rn ic mcm mcp mcr, ar cI (mA 5) 10 fPU, ar cI (mA 8) 40 fCR, ar cI (mA 33) 40 fWS, ar cI (mA 7) 40 fDB, ar cI (mA 31) 40 fRS, ar cI (mA 30) 40 fOW, ar cI (mA 32) 40 fPD, ar cI (mA 34) 10 fFA] s.heap := hP
  have hD : va_D A [mo aM mA (nI nt) th td (nI nm) (nI np) isd ln rf rp sz nx kd wh pl rd rn ic mcm mcp mcr, ar cI (mA 5) 10 fPU, ar cI (mA 8) 40 fCR, ar cI (mA 33) 40 fWS, ar cI (mA 7) 40 fDB, ar cI (mA 31) 40 fRS, ar cI (mA 30) 40 fOW, ar cI (mA 32) 40 fPD, ar cI (mA 34) 10 fFA] := hD
  have hl : lv_has ls 8 [(0, .ref aM), (1, .int (nI mm)), (2, .int (nI rnd))] := hl
  have hnp := HC.1
  have hnm := HC.2.1
  have hmm := HC.2.2.1
  have hdb := HC.2.2.2.1
  have hrec := recS_bound HC (Nat.le_refl np)
  have hpu := HC.2.2.2.2.2.2.2.2
  have hAb : 0 ≤ ((fPU mm).toInt + recS fCR fWS mm np) ∧ ((fPU mm).toInt + recS fCR fWS mm np) ≤ 200000000 := (by omega)
  refine lv_aload_n hx hb dX8_pays_0 rfl (lv_at hl 0 rfl) ?_
  refine va_get (D := D) (ci := 8) (v := .ref (mA 5)) (C := RX8) (T := TX8) (N := 44) hx hb hts inX8 hown hK hP 0 rfl rfl 5 (by decide) fl13 (fun _ h9 => h9) rfl dX8_pays_1 ?_
  refine lv_iload_n hx hb dX8_pays_4 rfl (lv_at hl 1 rfl) ?_
  refine m_iald (k := mm) hx hb hK hP 1 0 rfl rfl (by omega) (by decide) dX8_pays_5 ?_
  refine lv_istore_n (lv' := [(3, .int (fPU mm)), (0, .ref aM), (1, .int (nI mm)), (2, .int (nI rnd))]) hx hb dX8_pays_6 rfl hl (by decide) rfl (fun ls hl => ?_)
  refine lv_iconst (v := 0) hx hb dX8_pays_7 (by decide) ?_
  refine lv_istore (lv' := [(4, .int 0), (3, .int (fPU mm)), (0, .ref aM), (1, .int (nI mm)), (2, .int (nI rnd))]) hx hb dX8_pays_8 hl (by decide) rfl (fun ls hl => ?_)
  have L_10 : ∀ (n_10 : Nat) (k : Nat) (has : Int32), (np - k < n_10) → (k ≤ np) → (has.toInt = (fPU mm).toInt + recS fCR fWS mm k) → ∀ (H : Heap) (locs : List Loc), va_P D vwCl [mo aM mA (nI nt) th td (nI nm) (nI np) isd ln rf rp sz nx kd wh pl rd rn ic mcm mcp mcr, ar cI (mA 5) 10 fPU, ar cI (mA 8) 40 fCR, ar cI (mA 33) 40 fWS, ar cI (mA 7) 40 fDB, ar cI (mA 31) 40 fRS, ar cI (mA 30) 40 fOW, ar cI (mA 32) 40 fPD, ar cI (mA 34) 10 fFA] H → va_D A [mo aM mA (nI nt) th td (nI nm) (nI np) isd ln rf rp sz nx kd wh pl rd rn ic mcm mcp mcr, ar cI (mA 5) 10 fPU, ar cI (mA 8) 40 fCR, ar cI (mA 33) 40 fWS, ar cI (mA 7) 40 fDB, ar cI (mA 31) 40 fRS, ar cI (mA 30) 40 fOW, ar cI (mA 32) 40 fPD, ar cI (mA 34) 10 fFA] → va_S A s.heap H locs → ∀ ls : Array Slot, lv_has ls 8 [(0, .ref aM), (1, .int (nI mm)), (2, .int (nI rnd)), (3, .int has), (4, .int (nI k))] → W p l e r_c_X8_pays s m (([.ref aM, .int (nI mm), .int (nI rnd)] : List Value).toArray) below meth c H locs 0 0 Q (F0 m 10 ls []) := by
    intro n_10
    induction n_10 with
    | zero => intro k has hfu; exact absurd hfu (Nat.not_lt_zero _)
    | succ n_10 ih_10 =>
      intro k has hfu_10 hk ha H locs hP hD hS ls hl
      refine lv_iload hx hb dX8_pays_10 (lv_at hl 4 rfl) ?_
      refine lv_aload_n hx hb dX8_pays_12 rfl (lv_at hl 0 rfl) ?_
      refine va_get (D := D) (ci := 8) (v := .int (nI np)) (C := RX8) (T := TX8) (N := 44) hx hb hts inX8 hown hK hP 0 rfl rfl 6 (by decide) fl101 (fun _ h9 => h9) rfl dX8_pays_13 ?_
      refine lv_icmp_ge (tgt := 50) hx hb dX8_pays_16 (by decide) (fun c_16 => ?_) (fun c_16 => ?_)
      · skip
        have k_16 : np ≤ k := (nI_leI (a := np) (b := k) (by omega) (by omega)).mp c_16
        refine lv_iconst (v := 0) hx hb dX8_pays_50 (by decide) ?_
        refine lv_istore (lv' := [(4, .int 0), (0, .ref aM), (1, .int (nI mm)), (2, .int (nI rnd)), (3, .int has)]) hx hb dX8_pays_51 hl (by decide) rfl (fun ls hl => ?_)
        refine lv_iconst (v := 0) hx hb dX8_pays_53 (by decide) ?_
        refine lv_istore (lv' := [(5, .int 0), (4, .int 0), (0, .ref aM), (1, .int (nI mm)), (2, .int (nI rnd)), (3, .int has)]) hx hb dX8_pays_54 hl (by decide) rfl (fun ls hl => ?_)
        have L_56 : ∀ (n_56 : Nat) (rr : Nat) (has2 : Int32) (ot : Int32) (PD2 : Nat → Int32) (FA2 : Nat → Int32), (4 - rr < n_56) → (rr ≤ 4) → (PYinv np mm fDB fRS fOW fWS fPD fFA rnd ((fPU mm).toInt + recS fCR fWS mm np) (ordO fRS np rr).length has2 ot PD2 FA2) → ∀ (H : Heap) (locs : List Loc), va_P D vwCl [mo aM mA (nI nt) th td (nI nm) (nI np) isd ln rf rp sz nx kd wh pl rd rn ic mcm mcp mcr, ar cI (mA 5) 10 fPU, ar cI (mA 8) 40 fCR, ar cI (mA 33) 40 fWS, ar cI (mA 7) 40 fDB, ar cI (mA 31) 40 fRS, ar cI (mA 30) 40 fOW, ar cI (mA 32) 40 PD2, ar cI (mA 34) 10 FA2] H → va_D A [mo aM mA (nI nt) th td (nI nm) (nI np) isd ln rf rp sz nx kd wh pl rd rn ic mcm mcp mcr, ar cI (mA 5) 10 fPU, ar cI (mA 8) 40 fCR, ar cI (mA 33) 40 fWS, ar cI (mA 7) 40 fDB, ar cI (mA 31) 40 fRS, ar cI (mA 30) 40 fOW, ar cI (mA 32) 40 PD2, ar cI (mA 34) 10 FA2] → va_S A s.heap H locs → ∀ ls : Array Slot, lv_has ls 8 [(0, .ref aM), (1, .int (nI mm)), (2, .int (nI rnd)), (3, .int has2), (4, .int ot), (5, .int (nI rr))] → W p l e r_c_X8_pays s m (([.ref aM, .int (nI mm), .int (nI rnd)] : List Value).toArray) below meth c H locs 0 0 Q (F0 m 56 ls []) := by
          intro n_56
          induction n_56 with
          | zero => intro rr has2 ot PD2 FA2 hfu; exact absurd hfu (Nat.not_lt_zero _)
          | succ n_56 ih_56 =>
            intro rr has2 ot PD2 FA2 hfu_56 hr I2 H locs hP hD hS ls hl
            refine lv_iload hx hb dX8_pays_56 (lv_at hl 5 rfl) ?_
            refine lv_iconst (v := 4) hx hb dX8_pays_58 (by decide) ?_
            refine lv_icmp_ge (tgt := 202) hx hb dX8_pays_59 (by decide) (fun c_59 => ?_) (fun c_59 => ?_)
            · skip
              have k_59 : 4 ≤ rr := (nI_leI (a := 4) (b := rr) (by omega) (by omega)).mp c_59
              refine lv_iload hx hb dX8_pays_202 (lv_at hl 4 rfl) ?_
              have e4 : rr = 4 := (by omega)
              rw [e4, ordO_full HC.2.2.2.2.2.1] at I2
              exact ret ot (PD2, FA2) _ _ _ _ dX8_pays_204 (I2.2.2.2.1.elim (fun q => Or.inr q.1) (fun q => Or.inl q.1)) (⟨I2.2.1, I2.2.2.1, I2.2.2.2.1, I2.2.2.2.2⟩) (hP) (hD) hS
            · skip
              have k_59 : ¬ 4 ≤ rr := fun h9 => c_59 ((nI_leI (a := 4) (b := rr) (by omega) (by omega)).mpr h9)
              refine lv_iconst (v := 0) hx hb dX8_pays_62 (by decide) ?_
              refine lv_istore (lv' := [(6, .int 0), (0, .ref aM), (1, .int (nI mm)), (2, .int (nI rnd)), (3, .int has2), (4, .int ot), (5, .int (nI rr))]) hx hb dX8_pays_63 hl (by decide) rfl (fun ls hl => ?_)
              have L_65 : ∀ (n_65 : Nat) (k2 : Nat) (has3 : Int32) (ot3 : Int32) (PD3 : Nat → Int32) (FA3 : Nat → Int32), (np - k2 < n_65) → (k2 ≤ np) → (PYinv np mm fDB fRS fOW fWS fPD fFA rnd ((fPU mm).toInt + recS fCR fWS mm np) (ordO fRS np rr ++ rowO fRS rr k2).length has3 ot3 PD3 FA3) → ∀ (H : Heap) (locs : List Loc), va_P D vwCl [mo aM mA (nI nt) th td (nI nm) (nI np) isd ln rf rp sz nx kd wh pl rd rn ic mcm mcp mcr, ar cI (mA 5) 10 fPU, ar cI (mA 8) 40 fCR, ar cI (mA 33) 40 fWS, ar cI (mA 7) 40 fDB, ar cI (mA 31) 40 fRS, ar cI (mA 30) 40 fOW, ar cI (mA 32) 40 PD3, ar cI (mA 34) 10 FA3] H → va_D A [mo aM mA (nI nt) th td (nI nm) (nI np) isd ln rf rp sz nx kd wh pl rd rn ic mcm mcp mcr, ar cI (mA 5) 10 fPU, ar cI (mA 8) 40 fCR, ar cI (mA 33) 40 fWS, ar cI (mA 7) 40 fDB, ar cI (mA 31) 40 fRS, ar cI (mA 30) 40 fOW, ar cI (mA 32) 40 PD3, ar cI (mA 34) 10 FA3] → va_S A s.heap H locs → ∀ ls : Array Slot, lv_has ls 8 [(0, .ref aM), (1, .int (nI mm)), (2, .int (nI rnd)), (3, .int has3), (4, .int ot3), (5, .int (nI rr)), (6, .int (nI k2))] → W p l e r_c_X8_pays s m (([.ref aM, .int (nI mm), .int (nI rnd)] : List Value).toArray) below meth c H locs 0 0 Q (F0 m 65 ls []) := by
                intro n_65
                induction n_65 with
                | zero => intro k2 has3 ot3 PD3 FA3 hfu; exact absurd hfu (Nat.not_lt_zero _)
                | succ n_65 ih_65 =>
                  intro k2 has3 ot3 PD3 FA3 hfu_65 hk2 I3 H locs hP hD hS ls hl
                  refine lv_iload hx hb dX8_pays_65 (lv_at hl 6 rfl) ?_
                  refine lv_aload_n hx hb dX8_pays_67 rfl (lv_at hl 0 rfl) ?_
                  refine va_get (D := D) (ci := 8) (v := .int (nI np)) (C := RX8) (T := TX8) (N := 44) hx hb hts inX8 hown hK hP 0 rfl rfl 6 (by decide) fl101 (fun _ h9 => h9) rfl dX8_pays_68 ?_
                  refine lv_icmp_ge (tgt := 196) hx hb dX8_pays_71 (by decide) (fun c_71 => ?_) (fun c_71 => ?_)
                  · skip
                    have k_71 : np ≤ k2 := (nI_leI (a := np) (b := k2) (by omega) (by omega)).mp c_71
                    refine lv_iinc (v := (nI (rr + 1))) (lv' := [(5, .int (nI (rr + 1))), (0, .ref aM), (1, .int (nI mm)), (2, .int (nI rnd)), (3, .int has3), (4, .int ot3), (6, .int (nI k2))]) hx hb dX8_pays_196 hl (k := 5) rfl (nI_inc rr 1 (by decide)) (by decide) rfl (fun ls hl => ?_)
                    refine lv_goto (tgt := 56) hx hb dX8_pays_199 (by decide) ?_
                    exact ih_56 (rr + 1) has3 ot3 PD3 FA3 (by omega) (by omega) (by have e : k2 = np := (by omega); rw [e] at I3; exact I3) _ _ (hP) (hD) hS ls (lv_sub hl [1, 2, 3, 4, 5, 0] rfl)
                  · skip
                    have k_71 : ¬ np ≤ k2 := fun h9 => c_71 ((nI_leI (a := np) (b := k2) (by omega) (by omega)).mpr h9)
                    refine lv_aload_n hx hb dX8_pays_74 rfl (lv_at hl 0 rfl) ?_
                    refine va_get (D := D) (ci := 8) (v := .ref (mA 7)) (C := RX8) (T := TX8) (N := 44) hx hb hts inX8 hown hK hP 0 rfl rfl 7 (by decide) fl16 (fun _ h9 => h9) rfl dX8_pays_75 ?_
                    refine lv_iload hx hb dX8_pays_78 (lv_at hl 6 rfl) ?_
                    refine m_iald (k := k2) hx hb hK hP 4 0 rfl rfl (by omega) (by decide) dX8_pays_80 ?_
                    refine lv_iload_n hx hb dX8_pays_81 rfl (lv_at hl 1 rfl) ?_
                    refine lv_icmp_ne (tgt := 190) hx hb dX8_pays_82 (by decide) (fun c_82 => ?_) (fun c_82 => ?_)
                    · skip
                      refine lv_iinc (v := (nI (k2 + 1))) (lv' := [(6, .int (nI (k2 + 1))), (0, .ref aM), (1, .int (nI mm)), (2, .int (nI rnd)), (3, .int has3), (4, .int ot3), (5, .int (nI rr))]) hx hb dX8_pays_190 hl (k := 6) rfl (nI_inc k2 1 (by decide)) (by decide) rfl (fun ls hl => ?_)
                      refine lv_goto (tgt := 65) hx hb dX8_pays_193 (by decide) ?_
                      exact ih_65 (k2 + 1) has3 ot3 PD3 FA3 (by omega) (by omega) (by first | exact PY_miss I3 c_94 | exact PY_pass I3 (by omega) (by omega) (fun q => c_82 ((ix_is (hdb _ (by omega)) (by omega) (by omega)).mpr q))) _ _ (hP) (hD) hS ls (lv_sub hl [1, 2, 3, 4, 5, 6, 0] rfl)
                    · skip
                      refine lv_aload_n hx hb dX8_pays_85 rfl (lv_at hl 0 rfl) ?_
                      refine va_get (D := D) (ci := 8) (v := .ref (mA 31)) (C := RX8) (T := TX8) (N := 44) hx hb hts inX8 hown hK hP 0 rfl rfl 31 (by decide) fl63 (fun _ h9 => h9) rfl dX8_pays_86 ?_
                      refine lv_iload hx hb dX8_pays_89 (lv_at hl 6 rfl) ?_
                      refine m_iald (k := k2) hx hb hK hP 5 0 rfl rfl (by omega) (by decide) dX8_pays_91 ?_
                      refine lv_iload hx hb dX8_pays_92 (lv_at hl 5 rfl) ?_
                      refine lv_icmp_eq (tgt := 100) hx hb dX8_pays_94 (by decide) (fun c_94 => ?_) (fun c_94 => ?_)
                      · skip
                        refine lv_aload_n hx hb dX8_pays_100 rfl (lv_at hl 0 rfl) ?_
                        refine va_get (D := D) (ci := 8) (v := .ref (mA 30)) (C := RX8) (T := TX8) (N := 44) hx hb hts inX8 hown hK hP 0 rfl rfl 30 (by decide) fl60 (fun _ h9 => h9) rfl dX8_pays_101 ?_
                        refine lv_iload hx hb dX8_pays_104 (lv_at hl 6 rfl) ?_
                        refine m_iald (k := k2) hx hb hK hP 6 0 rfl rfl (by omega) (by decide) dX8_pays_106 ?_
                        refine lv_iload_n hx hb dX8_pays_107 rfl (lv_at hl 3 rfl) ?_
                        refine lv_icmp_ge (tgt := 121) hx hb dX8_pays_108 (by decide) (fun c_108 => ?_) (fun c_108 => ?_)
                        · skip
                          refine lv_iload_n hx hb dX8_pays_121 rfl (lv_at hl 3 rfl) ?_
                          refine lv_istore (lv' := [(7, .int has3), (0, .ref aM), (1, .int (nI mm)), (2, .int (nI rnd)), (3, .int has3), (4, .int ot3), (5, .int (nI rr)), (6, .int (nI k2))]) hx hb dX8_pays_122 hl (by decide) rfl (fun ls hl => ?_)
                          refine lv_iload_n hx hb dX8_pays_124 rfl (lv_at hl 4 rfl) ?_
                          refine lv_iload hx hb dX8_pays_125 (lv_at hl 0 rfl) ?_
                          refine lv_isub hx hb dX8_pays_127 ?_
                          refine lv_istore_n (lv' := [(3, .int (has3 - has3)), (7, .int has3), (0, .ref aM), (1, .int (nI mm)), (2, .int (nI rnd)), (4, .int ot3), (5, .int (nI rr)), (6, .int (nI k2))]) hx hb dX8_pays_128 rfl hl (by decide) rfl (fun ls hl => ?_)
                          refine lv_aload_n hx hb dX8_pays_129 rfl (lv_at hl 2 rfl) ?_
                          refine va_get (D := D) (ci := 8) (v := .ref (mA 32)) (C := RX8) (T := TX8) (N := 44) hx hb hts inX8 hown hK hP 0 rfl rfl 32 (by decide) fl66 (fun _ h9 => h9) rfl dX8_pays_130 ?_
                          refine lv_iload hx hb dX8_pays_133 (lv_at hl 7 rfl) ?_
                          refine lv_iload hx hb dX8_pays_135 (lv_at hl 1 rfl) ?_
                          refine m_iast (k := k2) (x := has3) hx hb hK hP hD hS 7 0 rfl rfl (by omega) (by decide) dX8_pays_137 (fun H locs hP hD hS => ?_)
                          have hP : va_P D vwCl [mo aM mA (nI nt) th td (nI nm) (nI np) isd ln rf rp sz nx kd wh pl rd rn ic mcm mcp mcr, ar cI (mA 5) 10 fPU, ar cI (mA 8) 40 fCR, ar cI (mA 33) 40 fWS, ar cI (mA 7) 40 fDB, ar cI (mA 31) 40 fRS, ar cI (mA 30) 40 fOW, ar cI (mA 32) 40 (upd PD3 k2 has3), ar cI (mA 34) 10 FA3] H := hP
                          have hD : va_D A [mo aM mA (nI nt) th td (nI nm) (nI np) isd ln rf rp sz nx kd wh pl rd rn ic mcm mcp mcr, ar cI (mA 5) 10 fPU, ar cI (mA 8) 40 fCR, ar cI (mA 33) 40 fWS, ar cI (mA 7) 40 fDB, ar cI (mA 31) 40 fRS, ar cI (mA 30) 40 fOW, ar cI (mA 32) 40 (upd PD3 k2 has3), ar cI (mA 34) 10 FA3] := hD
                          refine lv_iload hx hb dX8_pays_138 (lv_at hl 5 rfl) ?_
                          refine lv_if_ne (tgt := 155) hx hb dX8_pays_140 (by decide) (fun c_140 => ?_) (fun c_140 => ?_)
                          · skip
                            refine lv_iconst (v := 1) hx hb dX8_pays_155 (by decide) ?_
                            refine lv_goto (tgt := 160) hx hb dX8_pays_156 (by decide) ?_
                            refine lv_istore (lv' := [(4, .int 1), (3, .int (has3 - has3)), (7, .int has3), (0, .ref aM), (1, .int (nI mm)), (2, .int (nI rnd)), (5, .int (nI rr)), (6, .int (nI k2))]) hx hb dX8_pays_160 hl (by decide) rfl (fun ls hl => ?_)
                            refine lv_iload hx hb dX8_pays_162 (lv_at hl 2 rfl) ?_
                            refine lv_aload_n hx hb dX8_pays_164 rfl (lv_at hl 3 rfl) ?_
                            refine va_get (D := D) (ci := 8) (v := .ref (mA 30)) (C := RX8) (T := TX8) (N := 44) hx hb hts inX8 hown hK hP 0 rfl rfl 30 (by decide) fl60 (fun _ h9 => h9) rfl dX8_pays_165 ?_
                            refine lv_iload hx hb dX8_pays_168 (lv_at hl 7 rfl) ?_
                            refine m_iald (k := k2) hx hb hK hP 6 0 rfl rfl (by omega) (by decide) dX8_pays_170 ?_
                            refine lv_icmp_ge (tgt := 190) hx hb dX8_pays_171 (by decide) (fun c_171 => ?_) (fun c_171 => ?_)
                            · skip
                              refine lv_iinc (v := (nI (k2 + 1))) (lv' := [(6, .int (nI (k2 + 1))), (4, .int 1), (3, .int (has3 - has3)), (7, .int has3), (0, .ref aM), (1, .int (nI mm)), (2, .int (nI rnd)), (5, .int (nI rr))]) hx hb dX8_pays_190 hl (k := 7) rfl (nI_inc k2 1 (by decide)) (by decide) rfl (fun ls hl => ?_)
                              refine lv_goto (tgt := 65) hx hb dX8_pays_193 (by decide) ?_
                              exact ih_65 (k2 + 1) (has3 - has3) 1 (upd PD3 k2 has3) FA3 (by omega) (by omega) (PY_take HC hAb I3 (by omega) (by omega) c_94 ((ix_is (hdb _ (by omega)) (by omega) (by omega)).mp c_82) (by first | exact Or.inl ⟨c_108, rfl⟩ | exact Or.inr ⟨c_108, rfl⟩) (by first | exact Or.inl ⟨rfl, Or.inl c_140⟩ | exact Or.inl ⟨rfl, Or.inr c_152⟩ | exact Or.inr ⟨rfl, c_140, c_152⟩) (by first | exact Or.inr ⟨rfl, Or.inl c_171⟩ | exact Or.inr ⟨rfl, Or.inr c_180⟩ | exact Or.inl ⟨rfl, c_171, c_180⟩)) _ _ (hP) (hD) hS ls (lv_sub hl [4, 5, 6, 2, 1, 7, 0] rfl)
                            · skip
                              refine lv_aload_n hx hb dX8_pays_174 rfl (lv_at hl 3 rfl) ?_
                              refine va_get (D := D) (ci := 8) (v := .ref (mA 34)) (C := RX8) (T := TX8) (N := 44) hx hb hts inX8 hown hK hP 0 rfl rfl 34 (by decide) fl72 (fun _ h9 => h9) rfl dX8_pays_175 ?_
                              refine lv_iload_n hx hb dX8_pays_178 rfl (lv_at hl 4 rfl) ?_
                              refine m_iald (k := mm) hx hb hK hP 8 0 rfl rfl (by omega) (by decide) dX8_pays_179 ?_
                              refine lv_if_ne (tgt := 190) hx hb dX8_pays_180 (by decide) (fun c_180 => ?_) (fun c_180 => ?_)
                              · skip
                                refine lv_iinc (v := (nI (k2 + 1))) (lv' := [(6, .int (nI (k2 + 1))), (4, .int 1), (3, .int (has3 - has3)), (7, .int has3), (0, .ref aM), (1, .int (nI mm)), (2, .int (nI rnd)), (5, .int (nI rr))]) hx hb dX8_pays_190 hl (k := 7) rfl (nI_inc k2 1 (by decide)) (by decide) rfl (fun ls hl => ?_)
                                refine lv_goto (tgt := 65) hx hb dX8_pays_193 (by decide) ?_
                                exact ih_65 (k2 + 1) (has3 - has3) 1 (upd PD3 k2 has3) FA3 (by omega) (by omega) (PY_take HC hAb I3 (by omega) (by omega) c_94 ((ix_is (hdb _ (by omega)) (by omega) (by omega)).mp c_82) (by first | exact Or.inl ⟨c_108, rfl⟩ | exact Or.inr ⟨c_108, rfl⟩) (by first | exact Or.inl ⟨rfl, Or.inl c_140⟩ | exact Or.inl ⟨rfl, Or.inr c_152⟩ | exact Or.inr ⟨rfl, c_140, c_152⟩) (by first | exact Or.inr ⟨rfl, Or.inl c_171⟩ | exact Or.inr ⟨rfl, Or.inr c_180⟩ | exact Or.inl ⟨rfl, c_171, c_180⟩)) _ _ (hP) (hD) hS ls (lv_sub hl [4, 5, 6, 2, 1, 7, 0] rfl)
                              · skip
                                refine lv_aload_n hx hb dX8_pays_183 rfl (lv_at hl 3 rfl) ?_
                                refine va_get (D := D) (ci := 8) (v := .ref (mA 34)) (C := RX8) (T := TX8) (N := 44) hx hb hts inX8 hown hK hP 0 rfl rfl 34 (by decide) fl72 (fun _ h9 => h9) rfl dX8_pays_184 ?_
                                refine lv_iload_n hx hb dX8_pays_187 rfl (lv_at hl 4 rfl) ?_
                                refine lv_iload_n hx hb dX8_pays_188 rfl (lv_at hl 5 rfl) ?_
                                refine m_iast (k := mm) (x := (nI rnd)) hx hb hK hP hD hS 8 0 rfl rfl (by omega) (by decide) dX8_pays_189 (fun H locs hP hD hS => ?_)
                                have hP : va_P D vwCl [mo aM mA (nI nt) th td (nI nm) (nI np) isd ln rf rp sz nx kd wh pl rd rn ic mcm mcp mcr, ar cI (mA 5) 10 fPU, ar cI (mA 8) 40 fCR, ar cI (mA 33) 40 fWS, ar cI (mA 7) 40 fDB, ar cI (mA 31) 40 fRS, ar cI (mA 30) 40 fOW, ar cI (mA 32) 40 (upd PD3 k2 has3), ar cI (mA 34) 10 (upd FA3 mm (nI rnd))] H := hP
                                have hD : va_D A [mo aM mA (nI nt) th td (nI nm) (nI np) isd ln rf rp sz nx kd wh pl rd rn ic mcm mcp mcr, ar cI (mA 5) 10 fPU, ar cI (mA 8) 40 fCR, ar cI (mA 33) 40 fWS, ar cI (mA 7) 40 fDB, ar cI (mA 31) 40 fRS, ar cI (mA 30) 40 fOW, ar cI (mA 32) 40 (upd PD3 k2 has3), ar cI (mA 34) 10 (upd FA3 mm (nI rnd))] := hD
                                refine lv_iinc (v := (nI (k2 + 1))) (lv' := [(6, .int (nI (k2 + 1))), (4, .int 1), (3, .int (has3 - has3)), (7, .int has3), (0, .ref aM), (1, .int (nI mm)), (2, .int (nI rnd)), (5, .int (nI rr))]) hx hb dX8_pays_190 hl (k := 7) rfl (nI_inc k2 1 (by decide)) (by decide) rfl (fun ls hl => ?_)
                                refine lv_goto (tgt := 65) hx hb dX8_pays_193 (by decide) ?_
                                exact ih_65 (k2 + 1) (has3 - has3) 1 (upd PD3 k2 has3) (upd FA3 mm (nI rnd)) (by omega) (by omega) (PY_take HC hAb I3 (by omega) (by omega) c_94 ((ix_is (hdb _ (by omega)) (by omega) (by omega)).mp c_82) (by first | exact Or.inl ⟨c_108, rfl⟩ | exact Or.inr ⟨c_108, rfl⟩) (by first | exact Or.inl ⟨rfl, Or.inl c_140⟩ | exact Or.inl ⟨rfl, Or.inr c_152⟩ | exact Or.inr ⟨rfl, c_140, c_152⟩) (by first | exact Or.inr ⟨rfl, Or.inl c_171⟩ | exact Or.inr ⟨rfl, Or.inr c_180⟩ | exact Or.inl ⟨rfl, c_171, c_180⟩)) _ _ (hP) (hD) hS ls (lv_sub hl [4, 5, 6, 2, 1, 7, 0] rfl)
                          · skip
                            refine lv_iload hx hb dX8_pays_143 (lv_at hl 1 rfl) ?_
                            refine lv_aload_n hx hb dX8_pays_145 rfl (lv_at hl 2 rfl) ?_
                            refine va_get (D := D) (ci := 8) (v := .ref (mA 33)) (C := RX8) (T := TX8) (N := 44) hx hb hts inX8 hown hK hP 0 rfl rfl 33 (by decide) fl69 (fun _ h9 => h9) rfl dX8_pays_146 ?_
                            refine lv_iload hx hb dX8_pays_149 (lv_at hl 7 rfl) ?_
                            refine m_iald (k := k2) hx hb hK hP 3 0 rfl rfl (by omega) (by decide) dX8_pays_151 ?_
                            refine lv_icmp_eq (tgt := 159) hx hb dX8_pays_152 (by decide) (fun c_152 => ?_) (fun c_152 => ?_)
                            · skip
                              refine lv_iconst (v := 0) hx hb dX8_pays_159 (by decide) ?_
                              refine lv_istore (lv' := [(4, .int 0), (3, .int (has3 - has3)), (7, .int has3), (0, .ref aM), (1, .int (nI mm)), (2, .int (nI rnd)), (5, .int (nI rr)), (6, .int (nI k2))]) hx hb dX8_pays_160 hl (by decide) rfl (fun ls hl => ?_)
                              refine lv_iload hx hb dX8_pays_162 (lv_at hl 2 rfl) ?_
                              refine lv_aload_n hx hb dX8_pays_164 rfl (lv_at hl 3 rfl) ?_
                              refine va_get (D := D) (ci := 8) (v := .ref (mA 30)) (C := RX8) (T := TX8) (N := 44) hx hb hts inX8 hown hK hP 0 rfl rfl 30 (by decide) fl60 (fun _ h9 => h9) rfl dX8_pays_165 ?_
                              refine lv_iload hx hb dX8_pays_168 (lv_at hl 7 rfl) ?_
                              refine m_iald (k := k2) hx hb hK hP 6 0 rfl rfl (by omega) (by decide) dX8_pays_170 ?_
                              refine lv_icmp_ge (tgt := 190) hx hb dX8_pays_171 (by decide) (fun c_171 => ?_) (fun c_171 => ?_)
                              · skip
                                refine lv_iinc (v := (nI (k2 + 1))) (lv' := [(6, .int (nI (k2 + 1))), (4, .int 0), (3, .int (has3 - has3)), (7, .int has3), (0, .ref aM), (1, .int (nI mm)), (2, .int (nI rnd)), (5, .int (nI rr))]) hx hb dX8_pays_190 hl (k := 7) rfl (nI_inc k2 1 (by decide)) (by decide) rfl (fun ls hl => ?_)
                                refine lv_goto (tgt := 65) hx hb dX8_pays_193 (by decide) ?_
                                exact ih_65 (k2 + 1) (has3 - has3) 0 (upd PD3 k2 has3) FA3 (by omega) (by omega) (PY_take HC hAb I3 (by omega) (by omega) c_94 ((ix_is (hdb _ (by omega)) (by omega) (by omega)).mp c_82) (by first | exact Or.inl ⟨c_108, rfl⟩ | exact Or.inr ⟨c_108, rfl⟩) (by first | exact Or.inl ⟨rfl, Or.inl c_140⟩ | exact Or.inl ⟨rfl, Or.inr c_152⟩ | exact Or.inr ⟨rfl, c_140, c_152⟩) (by first | exact Or.inr ⟨rfl, Or.inl c_171⟩ | exact Or.inr ⟨rfl, Or.inr c_180⟩ | exact Or.inl ⟨rfl, c_171, c_180⟩)) _ _ (hP) (hD) hS ls (lv_sub hl [4, 5, 6, 2, 1, 7, 0] rfl)
                              · skip
                                refine lv_aload_n hx hb dX8_pays_174 rfl (lv_at hl 3 rfl) ?_
                                refine va_get (D := D) (ci := 8) (v := .ref (mA 34)) (C := RX8) (T := TX8) (N := 44) hx hb hts inX8 hown hK hP 0 rfl rfl 34 (by decide) fl72 (fun _ h9 => h9) rfl dX8_pays_175 ?_
                                refine lv_iload_n hx hb dX8_pays_178 rfl (lv_at hl 4 rfl) ?_
                                refine m_iald (k := mm) hx hb hK hP 8 0 rfl rfl (by omega) (by decide) dX8_pays_179 ?_
                                refine lv_if_ne (tgt := 190) hx hb dX8_pays_180 (by decide) (fun c_180 => ?_) (fun c_180 => ?_)
                                · skip
                                  refine lv_iinc (v := (nI (k2 + 1))) (lv' := [(6, .int (nI (k2 + 1))), (4, .int 0), (3, .int (has3 - has3)), (7, .int has3), (0, .ref aM), (1, .int (nI mm)), (2, .int (nI rnd)), (5, .int (nI rr))]) hx hb dX8_pays_190 hl (k := 7) rfl (nI_inc k2 1 (by decide)) (by decide) rfl (fun ls hl => ?_)
                                  refine lv_goto (tgt := 65) hx hb dX8_pays_193 (by decide) ?_
                                  exact ih_65 (k2 + 1) (has3 - has3) 0 (upd PD3 k2 has3) FA3 (by omega) (by omega) (PY_take HC hAb I3 (by omega) (by omega) c_94 ((ix_is (hdb _ (by omega)) (by omega) (by omega)).mp c_82) (by first | exact Or.inl ⟨c_108, rfl⟩ | exact Or.inr ⟨c_108, rfl⟩) (by first | exact Or.inl ⟨rfl, Or.inl c_140⟩ | exact Or.inl ⟨rfl, Or.inr c_152⟩ | exact Or.inr ⟨rfl, c_140, c_152⟩) (by first | exact Or.inr ⟨rfl, Or.inl c_171⟩ | exact Or.inr ⟨rfl, Or.inr c_180⟩ | exact Or.inl ⟨rfl, c_171, c_180⟩)) _ _ (hP) (hD) hS ls (lv_sub hl [4, 5, 6, 2, 1, 7, 0] rfl)
                                · skip
                                  refine lv_aload_n hx hb dX8_pays_183 rfl (lv_at hl 3 rfl) ?_
                                  refine va_get (D := D) (ci := 8) (v := .ref (mA 34)) (C := RX8) (T := TX8) (N := 44) hx hb hts inX8 hown hK hP 0 rfl rfl 34 (by decide) fl72 (fun _ h9 => h9) rfl dX8_pays_184 ?_
                                  refine lv_iload_n hx hb dX8_pays_187 rfl (lv_at hl 4 rfl) ?_
                                  refine lv_iload_n hx hb dX8_pays_188 rfl (lv_at hl 5 rfl) ?_
                                  refine m_iast (k := mm) (x := (nI rnd)) hx hb hK hP hD hS 8 0 rfl rfl (by omega) (by decide) dX8_pays_189 (fun H locs hP hD hS => ?_)
                                  have hP : va_P D vwCl [mo aM mA (nI nt) th td (nI nm) (nI np) isd ln rf rp sz nx kd wh pl rd rn ic mcm mcp mcr, ar cI (mA 5) 10 fPU, ar cI (mA 8) 40 fCR, ar cI (mA 33) 40 fWS, ar cI (mA 7) 40 fDB, ar cI (mA 31) 40 fRS, ar cI (mA 30) 40 fOW, ar cI (mA 32) 40 (upd PD3 k2 has3), ar cI (mA 34) 10 (upd FA3 mm (nI rnd))] H := hP
                                  have hD : va_D A [mo aM mA (nI nt) th td (nI nm) (nI np) isd ln rf rp sz nx kd wh pl rd rn ic mcm mcp mcr, ar cI (mA 5) 10 fPU, ar cI (mA 8) 40 fCR, ar cI (mA 33) 40 fWS, ar cI (mA 7) 40 fDB, ar cI (mA 31) 40 fRS, ar cI (mA 30) 40 fOW, ar cI (mA 32) 40 (upd PD3 k2 has3), ar cI (mA 34) 10 (upd FA3 mm (nI rnd))] := hD
                                  refine lv_iinc (v := (nI (k2 + 1))) (lv' := [(6, .int (nI (k2 + 1))), (4, .int 0), (3, .int (has3 - has3)), (7, .int has3), (0, .ref aM), (1, .int (nI mm)), (2, .int (nI rnd)), (5, .int (nI rr))]) hx hb dX8_pays_190 hl (k := 7) rfl (nI_inc k2 1 (by decide)) (by decide) rfl (fun ls hl => ?_)
                                  refine lv_goto (tgt := 65) hx hb dX8_pays_193 (by decide) ?_
                                  exact ih_65 (k2 + 1) (has3 - has3) 0 (upd PD3 k2 has3) (upd FA3 mm (nI rnd)) (by omega) (by omega) (PY_take HC hAb I3 (by omega) (by omega) c_94 ((ix_is (hdb _ (by omega)) (by omega) (by omega)).mp c_82) (by first | exact Or.inl ⟨c_108, rfl⟩ | exact Or.inr ⟨c_108, rfl⟩) (by first | exact Or.inl ⟨rfl, Or.inl c_140⟩ | exact Or.inl ⟨rfl, Or.inr c_152⟩ | exact Or.inr ⟨rfl, c_140, c_152⟩) (by first | exact Or.inr ⟨rfl, Or.inl c_171⟩ | exact Or.inr ⟨rfl, Or.inr c_180⟩ | exact Or.inl ⟨rfl, c_171, c_180⟩)) _ _ (hP) (hD) hS ls (lv_sub hl [4, 5, 6, 2, 1, 7, 0] rfl)
                            · skip
                              refine lv_iconst (v := 1) hx hb dX8_pays_155 (by decide) ?_
                              refine lv_goto (tgt := 160) hx hb dX8_pays_156 (by decide) ?_
                              refine lv_istore (lv' := [(4, .int 1), (3, .int (has3 - has3)), (7, .int has3), (0, .ref aM), (1, .int (nI mm)), (2, .int (nI rnd)), (5, .int (nI rr)), (6, .int (nI k2))]) hx hb dX8_pays_160 hl (by decide) rfl (fun ls hl => ?_)
                              refine lv_iload hx hb dX8_pays_162 (lv_at hl 2 rfl) ?_
                              refine lv_aload_n hx hb dX8_pays_164 rfl (lv_at hl 3 rfl) ?_
                              refine va_get (D := D) (ci := 8) (v := .ref (mA 30)) (C := RX8) (T := TX8) (N := 44) hx hb hts inX8 hown hK hP 0 rfl rfl 30 (by decide) fl60 (fun _ h9 => h9) rfl dX8_pays_165 ?_
                              refine lv_iload hx hb dX8_pays_168 (lv_at hl 7 rfl) ?_
                              refine m_iald (k := k2) hx hb hK hP 6 0 rfl rfl (by omega) (by decide) dX8_pays_170 ?_
                              refine lv_icmp_ge (tgt := 190) hx hb dX8_pays_171 (by decide) (fun c_171 => ?_) (fun c_171 => ?_)
                              · skip
                                refine lv_iinc (v := (nI (k2 + 1))) (lv' := [(6, .int (nI (k2 + 1))), (4, .int 1), (3, .int (has3 - has3)), (7, .int has3), (0, .ref aM), (1, .int (nI mm)), (2, .int (nI rnd)), (5, .int (nI rr))]) hx hb dX8_pays_190 hl (k := 7) rfl (nI_inc k2 1 (by decide)) (by decide) rfl (fun ls hl => ?_)
                                refine lv_goto (tgt := 65) hx hb dX8_pays_193 (by decide) ?_
                                exact ih_65 (k2 + 1) (has3 - has3) 1 (upd PD3 k2 has3) FA3 (by omega) (by omega) (PY_take HC hAb I3 (by omega) (by omega) c_94 ((ix_is (hdb _ (by omega)) (by omega) (by omega)).mp c_82) (by first | exact Or.inl ⟨c_108, rfl⟩ | exact Or.inr ⟨c_108, rfl⟩) (by first | exact Or.inl ⟨rfl, Or.inl c_140⟩ | exact Or.inl ⟨rfl, Or.inr c_152⟩ | exact Or.inr ⟨rfl, c_140, c_152⟩) (by first | exact Or.inr ⟨rfl, Or.inl c_171⟩ | exact Or.inr ⟨rfl, Or.inr c_180⟩ | exact Or.inl ⟨rfl, c_171, c_180⟩)) _ _ (hP) (hD) hS ls (lv_sub hl [4, 5, 6, 2, 1, 7, 0] rfl)
                              · skip
                                refine lv_aload_n hx hb dX8_pays_174 rfl (lv_at hl 3 rfl) ?_
                                refine va_get (D := D) (ci := 8) (v := .ref (mA 34)) (C := RX8) (T := TX8) (N := 44) hx hb hts inX8 hown hK hP 0 rfl rfl 34 (by decide) fl72 (fun _ h9 => h9) rfl dX8_pays_175 ?_
                                refine lv_iload_n hx hb dX8_pays_178 rfl (lv_at hl 4 rfl) ?_
                                refine m_iald (k := mm) hx hb hK hP 8 0 rfl rfl (by omega) (by decide) dX8_pays_179 ?_
                                refine lv_if_ne (tgt := 190) hx hb dX8_pays_180 (by decide) (fun c_180 => ?_) (fun c_180 => ?_)
                                · skip
                                  refine lv_iinc (v := (nI (k2 + 1))) (lv' := [(6, .int (nI (k2 + 1))), (4, .int 1), (3, .int (has3 - has3)), (7, .int has3), (0, .ref aM), (1, .int (nI mm)), (2, .int (nI rnd)), (5, .int (nI rr))]) hx hb dX8_pays_190 hl (k := 7) rfl (nI_inc k2 1 (by decide)) (by decide) rfl (fun ls hl => ?_)
                                  refine lv_goto (tgt := 65) hx hb dX8_pays_193 (by decide) ?_
                                  exact ih_65 (k2 + 1) (has3 - has3) 1 (upd PD3 k2 has3) FA3 (by omega) (by omega) (PY_take HC hAb I3 (by omega) (by omega) c_94 ((ix_is (hdb _ (by omega)) (by omega) (by omega)).mp c_82) (by first | exact Or.inl ⟨c_108, rfl⟩ | exact Or.inr ⟨c_108, rfl⟩) (by first | exact Or.inl ⟨rfl, Or.inl c_140⟩ | exact Or.inl ⟨rfl, Or.inr c_152⟩ | exact Or.inr ⟨rfl, c_140, c_152⟩) (by first | exact Or.inr ⟨rfl, Or.inl c_171⟩ | exact Or.inr ⟨rfl, Or.inr c_180⟩ | exact Or.inl ⟨rfl, c_171, c_180⟩)) _ _ (hP) (hD) hS ls (lv_sub hl [4, 5, 6, 2, 1, 7, 0] rfl)
                                · skip
                                  refine lv_aload_n hx hb dX8_pays_183 rfl (lv_at hl 3 rfl) ?_
                                  refine va_get (D := D) (ci := 8) (v := .ref (mA 34)) (C := RX8) (T := TX8) (N := 44) hx hb hts inX8 hown hK hP 0 rfl rfl 34 (by decide) fl72 (fun _ h9 => h9) rfl dX8_pays_184 ?_
                                  refine lv_iload_n hx hb dX8_pays_187 rfl (lv_at hl 4 rfl) ?_
                                  refine lv_iload_n hx hb dX8_pays_188 rfl (lv_at hl 5 rfl) ?_
                                  refine m_iast (k := mm) (x := (nI rnd)) hx hb hK hP hD hS 8 0 rfl rfl (by omega) (by decide) dX8_pays_189 (fun H locs hP hD hS => ?_)
                                  have hP : va_P D vwCl [mo aM mA (nI nt) th td (nI nm) (nI np) isd ln rf rp sz nx kd wh pl rd rn ic mcm mcp mcr, ar cI (mA 5) 10 fPU, ar cI (mA 8) 40 fCR, ar cI (mA 33) 40 fWS, ar cI (mA 7) 40 fDB, ar cI (mA 31) 40 fRS, ar cI (mA 30) 40 fOW, ar cI (mA 32) 40 (upd PD3 k2 has3), ar cI (mA 34) 10 (upd FA3 mm (nI rnd))] H := hP
                                  have hD : va_D A [mo aM mA (nI nt) th td (nI nm) (nI np) isd ln rf rp sz nx kd wh pl rd rn ic mcm mcp mcr, ar cI (mA 5) 10 fPU, ar cI (mA 8) 40 fCR, ar cI (mA 33) 40 fWS, ar cI (mA 7) 40 fDB, ar cI (mA 31) 40 fRS, ar cI (mA 30) 40 fOW, ar cI (mA 32) 40 (upd PD3 k2 has3), ar cI (mA 34) 10 (upd FA3 mm (nI rnd))] := hD
                                  refine lv_iinc (v := (nI (k2 + 1))) (lv' := [(6, .int (nI (k2 + 1))), (4, .int 1), (3, .int (has3 - has3)), (7, .int has3), (0, .ref aM), (1, .int (nI mm)), (2, .int (nI rnd)), (5, .int (nI rr))]) hx hb dX8_pays_190 hl (k := 7) rfl (nI_inc k2 1 (by decide)) (by decide) rfl (fun ls hl => ?_)
                                  refine lv_goto (tgt := 65) hx hb dX8_pays_193 (by decide) ?_
                                  exact ih_65 (k2 + 1) (has3 - has3) 1 (upd PD3 k2 has3) (upd FA3 mm (nI rnd)) (by omega) (by omega) (PY_take HC hAb I3 (by omega) (by omega) c_94 ((ix_is (hdb _ (by omega)) (by omega) (by omega)).mp c_82) (by first | exact Or.inl ⟨c_108, rfl⟩ | exact Or.inr ⟨c_108, rfl⟩) (by first | exact Or.inl ⟨rfl, Or.inl c_140⟩ | exact Or.inl ⟨rfl, Or.inr c_152⟩ | exact Or.inr ⟨rfl, c_140, c_152⟩) (by first | exact Or.inr ⟨rfl, Or.inl c_171⟩ | exact Or.inr ⟨rfl, Or.inr c_180⟩ | exact Or.inl ⟨rfl, c_171, c_180⟩)) _ _ (hP) (hD) hS ls (lv_sub hl [4, 5, 6, 2, 1, 7, 0] rfl)
                        · skip
                          refine lv_aload_n hx hb dX8_pays_111 rfl (lv_at hl 0 rfl) ?_
                          refine va_get (D := D) (ci := 8) (v := .ref (mA 30)) (C := RX8) (T := TX8) (N := 44) hx hb hts inX8 hown hK hP 0 rfl rfl 30 (by decide) fl60 (fun _ h9 => h9) rfl dX8_pays_112 ?_
                          refine lv_iload hx hb dX8_pays_115 (lv_at hl 6 rfl) ?_
                          refine m_iald (k := k2) hx hb hK hP 6 0 rfl rfl (by omega) (by decide) dX8_pays_117 ?_
                          refine lv_goto (tgt := 122) hx hb dX8_pays_118 (by decide) ?_
                          refine lv_istore (lv' := [(7, .int (fOW k2)), (0, .ref aM), (1, .int (nI mm)), (2, .int (nI rnd)), (3, .int has3), (4, .int ot3), (5, .int (nI rr)), (6, .int (nI k2))]) hx hb dX8_pays_122 hl (by decide) rfl (fun ls hl => ?_)
                          refine lv_iload_n hx hb dX8_pays_124 rfl (lv_at hl 4 rfl) ?_
                          refine lv_iload hx hb dX8_pays_125 (lv_at hl 0 rfl) ?_
                          refine lv_isub hx hb dX8_pays_127 ?_
                          refine lv_istore_n (lv' := [(3, .int (has3 - (fOW k2))), (7, .int (fOW k2)), (0, .ref aM), (1, .int (nI mm)), (2, .int (nI rnd)), (4, .int ot3), (5, .int (nI rr)), (6, .int (nI k2))]) hx hb dX8_pays_128 rfl hl (by decide) rfl (fun ls hl => ?_)
                          refine lv_aload_n hx hb dX8_pays_129 rfl (lv_at hl 2 rfl) ?_
                          refine va_get (D := D) (ci := 8) (v := .ref (mA 32)) (C := RX8) (T := TX8) (N := 44) hx hb hts inX8 hown hK hP 0 rfl rfl 32 (by decide) fl66 (fun _ h9 => h9) rfl dX8_pays_130 ?_
                          refine lv_iload hx hb dX8_pays_133 (lv_at hl 7 rfl) ?_
                          refine lv_iload hx hb dX8_pays_135 (lv_at hl 1 rfl) ?_
                          refine m_iast (k := k2) (x := (fOW k2)) hx hb hK hP hD hS 7 0 rfl rfl (by omega) (by decide) dX8_pays_137 (fun H locs hP hD hS => ?_)
                          have hP : va_P D vwCl [mo aM mA (nI nt) th td (nI nm) (nI np) isd ln rf rp sz nx kd wh pl rd rn ic mcm mcp mcr, ar cI (mA 5) 10 fPU, ar cI (mA 8) 40 fCR, ar cI (mA 33) 40 fWS, ar cI (mA 7) 40 fDB, ar cI (mA 31) 40 fRS, ar cI (mA 30) 40 fOW, ar cI (mA 32) 40 (upd PD3 k2 (fOW k2)), ar cI (mA 34) 10 FA3] H := hP
                          have hD : va_D A [mo aM mA (nI nt) th td (nI nm) (nI np) isd ln rf rp sz nx kd wh pl rd rn ic mcm mcp mcr, ar cI (mA 5) 10 fPU, ar cI (mA 8) 40 fCR, ar cI (mA 33) 40 fWS, ar cI (mA 7) 40 fDB, ar cI (mA 31) 40 fRS, ar cI (mA 30) 40 fOW, ar cI (mA 32) 40 (upd PD3 k2 (fOW k2)), ar cI (mA 34) 10 FA3] := hD
                          refine lv_iload hx hb dX8_pays_138 (lv_at hl 5 rfl) ?_
                          refine lv_if_ne (tgt := 155) hx hb dX8_pays_140 (by decide) (fun c_140 => ?_) (fun c_140 => ?_)
                          · skip
                            refine lv_iconst (v := 1) hx hb dX8_pays_155 (by decide) ?_
                            refine lv_goto (tgt := 160) hx hb dX8_pays_156 (by decide) ?_
                            refine lv_istore (lv' := [(4, .int 1), (3, .int (has3 - (fOW k2))), (7, .int (fOW k2)), (0, .ref aM), (1, .int (nI mm)), (2, .int (nI rnd)), (5, .int (nI rr)), (6, .int (nI k2))]) hx hb dX8_pays_160 hl (by decide) rfl (fun ls hl => ?_)
                            refine lv_iload hx hb dX8_pays_162 (lv_at hl 2 rfl) ?_
                            refine lv_aload_n hx hb dX8_pays_164 rfl (lv_at hl 3 rfl) ?_
                            refine va_get (D := D) (ci := 8) (v := .ref (mA 30)) (C := RX8) (T := TX8) (N := 44) hx hb hts inX8 hown hK hP 0 rfl rfl 30 (by decide) fl60 (fun _ h9 => h9) rfl dX8_pays_165 ?_
                            refine lv_iload hx hb dX8_pays_168 (lv_at hl 7 rfl) ?_
                            refine m_iald (k := k2) hx hb hK hP 6 0 rfl rfl (by omega) (by decide) dX8_pays_170 ?_
                            refine lv_icmp_ge (tgt := 190) hx hb dX8_pays_171 (by decide) (fun c_171 => ?_) (fun c_171 => ?_)
                            · skip
                              refine lv_iinc (v := (nI (k2 + 1))) (lv' := [(6, .int (nI (k2 + 1))), (4, .int 1), (3, .int (has3 - (fOW k2))), (7, .int (fOW k2)), (0, .ref aM), (1, .int (nI mm)), (2, .int (nI rnd)), (5, .int (nI rr))]) hx hb dX8_pays_190 hl (k := 7) rfl (nI_inc k2 1 (by decide)) (by decide) rfl (fun ls hl => ?_)
                              refine lv_goto (tgt := 65) hx hb dX8_pays_193 (by decide) ?_
                              exact ih_65 (k2 + 1) (has3 - (fOW k2)) 1 (upd PD3 k2 (fOW k2)) FA3 (by omega) (by omega) (PY_take HC hAb I3 (by omega) (by omega) c_94 ((ix_is (hdb _ (by omega)) (by omega) (by omega)).mp c_82) (by first | exact Or.inl ⟨c_108, rfl⟩ | exact Or.inr ⟨c_108, rfl⟩) (by first | exact Or.inl ⟨rfl, Or.inl c_140⟩ | exact Or.inl ⟨rfl, Or.inr c_152⟩ | exact Or.inr ⟨rfl, c_140, c_152⟩) (by first | exact Or.inr ⟨rfl, Or.inl c_171⟩ | exact Or.inr ⟨rfl, Or.inr c_180⟩ | exact Or.inl ⟨rfl, c_171, c_180⟩)) _ _ (hP) (hD) hS ls (lv_sub hl [4, 5, 6, 2, 1, 7, 0] rfl)
                            · skip
                              refine lv_aload_n hx hb dX8_pays_174 rfl (lv_at hl 3 rfl) ?_
                              refine va_get (D := D) (ci := 8) (v := .ref (mA 34)) (C := RX8) (T := TX8) (N := 44) hx hb hts inX8 hown hK hP 0 rfl rfl 34 (by decide) fl72 (fun _ h9 => h9) rfl dX8_pays_175 ?_
                              refine lv_iload_n hx hb dX8_pays_178 rfl (lv_at hl 4 rfl) ?_
                              refine m_iald (k := mm) hx hb hK hP 8 0 rfl rfl (by omega) (by decide) dX8_pays_179 ?_
                              refine lv_if_ne (tgt := 190) hx hb dX8_pays_180 (by decide) (fun c_180 => ?_) (fun c_180 => ?_)
                              · skip
                                refine lv_iinc (v := (nI (k2 + 1))) (lv' := [(6, .int (nI (k2 + 1))), (4, .int 1), (3, .int (has3 - (fOW k2))), (7, .int (fOW k2)), (0, .ref aM), (1, .int (nI mm)), (2, .int (nI rnd)), (5, .int (nI rr))]) hx hb dX8_pays_190 hl (k := 7) rfl (nI_inc k2 1 (by decide)) (by decide) rfl (fun ls hl => ?_)
                                refine lv_goto (tgt := 65) hx hb dX8_pays_193 (by decide) ?_
                                exact ih_65 (k2 + 1) (has3 - (fOW k2)) 1 (upd PD3 k2 (fOW k2)) FA3 (by omega) (by omega) (PY_take HC hAb I3 (by omega) (by omega) c_94 ((ix_is (hdb _ (by omega)) (by omega) (by omega)).mp c_82) (by first | exact Or.inl ⟨c_108, rfl⟩ | exact Or.inr ⟨c_108, rfl⟩) (by first | exact Or.inl ⟨rfl, Or.inl c_140⟩ | exact Or.inl ⟨rfl, Or.inr c_152⟩ | exact Or.inr ⟨rfl, c_140, c_152⟩) (by first | exact Or.inr ⟨rfl, Or.inl c_171⟩ | exact Or.inr ⟨rfl, Or.inr c_180⟩ | exact Or.inl ⟨rfl, c_171, c_180⟩)) _ _ (hP) (hD) hS ls (lv_sub hl [4, 5, 6, 2, 1, 7, 0] rfl)
                              · skip
                                refine lv_aload_n hx hb dX8_pays_183 rfl (lv_at hl 3 rfl) ?_
                                refine va_get (D := D) (ci := 8) (v := .ref (mA 34)) (C := RX8) (T := TX8) (N := 44) hx hb hts inX8 hown hK hP 0 rfl rfl 34 (by decide) fl72 (fun _ h9 => h9) rfl dX8_pays_184 ?_
                                refine lv_iload_n hx hb dX8_pays_187 rfl (lv_at hl 4 rfl) ?_
                                refine lv_iload_n hx hb dX8_pays_188 rfl (lv_at hl 5 rfl) ?_
                                refine m_iast (k := mm) (x := (nI rnd)) hx hb hK hP hD hS 8 0 rfl rfl (by omega) (by decide) dX8_pays_189 (fun H locs hP hD hS => ?_)
                                have hP : va_P D vwCl [mo aM mA (nI nt) th td (nI nm) (nI np) isd ln rf rp sz nx kd wh pl rd rn ic mcm mcp mcr, ar cI (mA 5) 10 fPU, ar cI (mA 8) 40 fCR, ar cI (mA 33) 40 fWS, ar cI (mA 7) 40 fDB, ar cI (mA 31) 40 fRS, ar cI (mA 30) 40 fOW, ar cI (mA 32) 40 (upd PD3 k2 (fOW k2)), ar cI (mA 34) 10 (upd FA3 mm (nI rnd))] H := hP
                                have hD : va_D A [mo aM mA (nI nt) th td (nI nm) (nI np) isd ln rf rp sz nx kd wh pl rd rn ic mcm mcp mcr, ar cI (mA 5) 10 fPU, ar cI (mA 8) 40 fCR, ar cI (mA 33) 40 fWS, ar cI (mA 7) 40 fDB, ar cI (mA 31) 40 fRS, ar cI (mA 30) 40 fOW, ar cI (mA 32) 40 (upd PD3 k2 (fOW k2)), ar cI (mA 34) 10 (upd FA3 mm (nI rnd))] := hD
                                refine lv_iinc (v := (nI (k2 + 1))) (lv' := [(6, .int (nI (k2 + 1))), (4, .int 1), (3, .int (has3 - (fOW k2))), (7, .int (fOW k2)), (0, .ref aM), (1, .int (nI mm)), (2, .int (nI rnd)), (5, .int (nI rr))]) hx hb dX8_pays_190 hl (k := 7) rfl (nI_inc k2 1 (by decide)) (by decide) rfl (fun ls hl => ?_)
                                refine lv_goto (tgt := 65) hx hb dX8_pays_193 (by decide) ?_
                                exact ih_65 (k2 + 1) (has3 - (fOW k2)) 1 (upd PD3 k2 (fOW k2)) (upd FA3 mm (nI rnd)) (by omega) (by omega) (PY_take HC hAb I3 (by omega) (by omega) c_94 ((ix_is (hdb _ (by omega)) (by omega) (by omega)).mp c_82) (by first | exact Or.inl ⟨c_108, rfl⟩ | exact Or.inr ⟨c_108, rfl⟩) (by first | exact Or.inl ⟨rfl, Or.inl c_140⟩ | exact Or.inl ⟨rfl, Or.inr c_152⟩ | exact Or.inr ⟨rfl, c_140, c_152⟩) (by first | exact Or.inr ⟨rfl, Or.inl c_171⟩ | exact Or.inr ⟨rfl, Or.inr c_180⟩ | exact Or.inl ⟨rfl, c_171, c_180⟩)) _ _ (hP) (hD) hS ls (lv_sub hl [4, 5, 6, 2, 1, 7, 0] rfl)
                          · skip
                            refine lv_iload hx hb dX8_pays_143 (lv_at hl 1 rfl) ?_
                            refine lv_aload_n hx hb dX8_pays_145 rfl (lv_at hl 2 rfl) ?_
                            refine va_get (D := D) (ci := 8) (v := .ref (mA 33)) (C := RX8) (T := TX8) (N := 44) hx hb hts inX8 hown hK hP 0 rfl rfl 33 (by decide) fl69 (fun _ h9 => h9) rfl dX8_pays_146 ?_
                            refine lv_iload hx hb dX8_pays_149 (lv_at hl 7 rfl) ?_
                            refine m_iald (k := k2) hx hb hK hP 3 0 rfl rfl (by omega) (by decide) dX8_pays_151 ?_
                            refine lv_icmp_eq (tgt := 159) hx hb dX8_pays_152 (by decide) (fun c_152 => ?_) (fun c_152 => ?_)
                            · skip
                              refine lv_iconst (v := 0) hx hb dX8_pays_159 (by decide) ?_
                              refine lv_istore (lv' := [(4, .int 0), (3, .int (has3 - (fOW k2))), (7, .int (fOW k2)), (0, .ref aM), (1, .int (nI mm)), (2, .int (nI rnd)), (5, .int (nI rr)), (6, .int (nI k2))]) hx hb dX8_pays_160 hl (by decide) rfl (fun ls hl => ?_)
                              refine lv_iload hx hb dX8_pays_162 (lv_at hl 2 rfl) ?_
                              refine lv_aload_n hx hb dX8_pays_164 rfl (lv_at hl 3 rfl) ?_
                              refine va_get (D := D) (ci := 8) (v := .ref (mA 30)) (C := RX8) (T := TX8) (N := 44) hx hb hts inX8 hown hK hP 0 rfl rfl 30 (by decide) fl60 (fun _ h9 => h9) rfl dX8_pays_165 ?_
                              refine lv_iload hx hb dX8_pays_168 (lv_at hl 7 rfl) ?_
                              refine m_iald (k := k2) hx hb hK hP 6 0 rfl rfl (by omega) (by decide) dX8_pays_170 ?_
                              refine lv_icmp_ge (tgt := 190) hx hb dX8_pays_171 (by decide) (fun c_171 => ?_) (fun c_171 => ?_)
                              · skip
                                refine lv_iinc (v := (nI (k2 + 1))) (lv' := [(6, .int (nI (k2 + 1))), (4, .int 0), (3, .int (has3 - (fOW k2))), (7, .int (fOW k2)), (0, .ref aM), (1, .int (nI mm)), (2, .int (nI rnd)), (5, .int (nI rr))]) hx hb dX8_pays_190 hl (k := 7) rfl (nI_inc k2 1 (by decide)) (by decide) rfl (fun ls hl => ?_)
                                refine lv_goto (tgt := 65) hx hb dX8_pays_193 (by decide) ?_
                                exact ih_65 (k2 + 1) (has3 - (fOW k2)) 0 (upd PD3 k2 (fOW k2)) FA3 (by omega) (by omega) (PY_take HC hAb I3 (by omega) (by omega) c_94 ((ix_is (hdb _ (by omega)) (by omega) (by omega)).mp c_82) (by first | exact Or.inl ⟨c_108, rfl⟩ | exact Or.inr ⟨c_108, rfl⟩) (by first | exact Or.inl ⟨rfl, Or.inl c_140⟩ | exact Or.inl ⟨rfl, Or.inr c_152⟩ | exact Or.inr ⟨rfl, c_140, c_152⟩) (by first | exact Or.inr ⟨rfl, Or.inl c_171⟩ | exact Or.inr ⟨rfl, Or.inr c_180⟩ | exact Or.inl ⟨rfl, c_171, c_180⟩)) _ _ (hP) (hD) hS ls (lv_sub hl [4, 5, 6, 2, 1, 7, 0] rfl)
                              · skip
                                refine lv_aload_n hx hb dX8_pays_174 rfl (lv_at hl 3 rfl) ?_
                                refine va_get (D := D) (ci := 8) (v := .ref (mA 34)) (C := RX8) (T := TX8) (N := 44) hx hb hts inX8 hown hK hP 0 rfl rfl 34 (by decide) fl72 (fun _ h9 => h9) rfl dX8_pays_175 ?_
                                refine lv_iload_n hx hb dX8_pays_178 rfl (lv_at hl 4 rfl) ?_
                                refine m_iald (k := mm) hx hb hK hP 8 0 rfl rfl (by omega) (by decide) dX8_pays_179 ?_
                                refine lv_if_ne (tgt := 190) hx hb dX8_pays_180 (by decide) (fun c_180 => ?_) (fun c_180 => ?_)
                                · skip
                                  refine lv_iinc (v := (nI (k2 + 1))) (lv' := [(6, .int (nI (k2 + 1))), (4, .int 0), (3, .int (has3 - (fOW k2))), (7, .int (fOW k2)), (0, .ref aM), (1, .int (nI mm)), (2, .int (nI rnd)), (5, .int (nI rr))]) hx hb dX8_pays_190 hl (k := 7) rfl (nI_inc k2 1 (by decide)) (by decide) rfl (fun ls hl => ?_)
                                  refine lv_goto (tgt := 65) hx hb dX8_pays_193 (by decide) ?_
                                  exact ih_65 (k2 + 1) (has3 - (fOW k2)) 0 (upd PD3 k2 (fOW k2)) FA3 (by omega) (by omega) (PY_take HC hAb I3 (by omega) (by omega) c_94 ((ix_is (hdb _ (by omega)) (by omega) (by omega)).mp c_82) (by first | exact Or.inl ⟨c_108, rfl⟩ | exact Or.inr ⟨c_108, rfl⟩) (by first | exact Or.inl ⟨rfl, Or.inl c_140⟩ | exact Or.inl ⟨rfl, Or.inr c_152⟩ | exact Or.inr ⟨rfl, c_140, c_152⟩) (by first | exact Or.inr ⟨rfl, Or.inl c_171⟩ | exact Or.inr ⟨rfl, Or.inr c_180⟩ | exact Or.inl ⟨rfl, c_171, c_180⟩)) _ _ (hP) (hD) hS ls (lv_sub hl [4, 5, 6, 2, 1, 7, 0] rfl)
                                · skip
                                  refine lv_aload_n hx hb dX8_pays_183 rfl (lv_at hl 3 rfl) ?_
                                  refine va_get (D := D) (ci := 8) (v := .ref (mA 34)) (C := RX8) (T := TX8) (N := 44) hx hb hts inX8 hown hK hP 0 rfl rfl 34 (by decide) fl72 (fun _ h9 => h9) rfl dX8_pays_184 ?_
                                  refine lv_iload_n hx hb dX8_pays_187 rfl (lv_at hl 4 rfl) ?_
                                  refine lv_iload_n hx hb dX8_pays_188 rfl (lv_at hl 5 rfl) ?_
                                  refine m_iast (k := mm) (x := (nI rnd)) hx hb hK hP hD hS 8 0 rfl rfl (by omega) (by decide) dX8_pays_189 (fun H locs hP hD hS => ?_)
                                  have hP : va_P D vwCl [mo aM mA (nI nt) th td (nI nm) (nI np) isd ln rf rp sz nx kd wh pl rd rn ic mcm mcp mcr, ar cI (mA 5) 10 fPU, ar cI (mA 8) 40 fCR, ar cI (mA 33) 40 fWS, ar cI (mA 7) 40 fDB, ar cI (mA 31) 40 fRS, ar cI (mA 30) 40 fOW, ar cI (mA 32) 40 (upd PD3 k2 (fOW k2)), ar cI (mA 34) 10 (upd FA3 mm (nI rnd))] H := hP
                                  have hD : va_D A [mo aM mA (nI nt) th td (nI nm) (nI np) isd ln rf rp sz nx kd wh pl rd rn ic mcm mcp mcr, ar cI (mA 5) 10 fPU, ar cI (mA 8) 40 fCR, ar cI (mA 33) 40 fWS, ar cI (mA 7) 40 fDB, ar cI (mA 31) 40 fRS, ar cI (mA 30) 40 fOW, ar cI (mA 32) 40 (upd PD3 k2 (fOW k2)), ar cI (mA 34) 10 (upd FA3 mm (nI rnd))] := hD
                                  refine lv_iinc (v := (nI (k2 + 1))) (lv' := [(6, .int (nI (k2 + 1))), (4, .int 0), (3, .int (has3 - (fOW k2))), (7, .int (fOW k2)), (0, .ref aM), (1, .int (nI mm)), (2, .int (nI rnd)), (5, .int (nI rr))]) hx hb dX8_pays_190 hl (k := 7) rfl (nI_inc k2 1 (by decide)) (by decide) rfl (fun ls hl => ?_)
                                  refine lv_goto (tgt := 65) hx hb dX8_pays_193 (by decide) ?_
                                  exact ih_65 (k2 + 1) (has3 - (fOW k2)) 0 (upd PD3 k2 (fOW k2)) (upd FA3 mm (nI rnd)) (by omega) (by omega) (PY_take HC hAb I3 (by omega) (by omega) c_94 ((ix_is (hdb _ (by omega)) (by omega) (by omega)).mp c_82) (by first | exact Or.inl ⟨c_108, rfl⟩ | exact Or.inr ⟨c_108, rfl⟩) (by first | exact Or.inl ⟨rfl, Or.inl c_140⟩ | exact Or.inl ⟨rfl, Or.inr c_152⟩ | exact Or.inr ⟨rfl, c_140, c_152⟩) (by first | exact Or.inr ⟨rfl, Or.inl c_171⟩ | exact Or.inr ⟨rfl, Or.inr c_180⟩ | exact Or.inl ⟨rfl, c_171, c_180⟩)) _ _ (hP) (hD) hS ls (lv_sub hl [4, 5, 6, 2, 1, 7, 0] rfl)
                            · skip
                              refine lv_iconst (v := 1) hx hb dX8_pays_155 (by decide) ?_
                              refine lv_goto (tgt := 160) hx hb dX8_pays_156 (by decide) ?_
                              refine lv_istore (lv' := [(4, .int 1), (3, .int (has3 - (fOW k2))), (7, .int (fOW k2)), (0, .ref aM), (1, .int (nI mm)), (2, .int (nI rnd)), (5, .int (nI rr)), (6, .int (nI k2))]) hx hb dX8_pays_160 hl (by decide) rfl (fun ls hl => ?_)
                              refine lv_iload hx hb dX8_pays_162 (lv_at hl 2 rfl) ?_
                              refine lv_aload_n hx hb dX8_pays_164 rfl (lv_at hl 3 rfl) ?_
                              refine va_get (D := D) (ci := 8) (v := .ref (mA 30)) (C := RX8) (T := TX8) (N := 44) hx hb hts inX8 hown hK hP 0 rfl rfl 30 (by decide) fl60 (fun _ h9 => h9) rfl dX8_pays_165 ?_
                              refine lv_iload hx hb dX8_pays_168 (lv_at hl 7 rfl) ?_
                              refine m_iald (k := k2) hx hb hK hP 6 0 rfl rfl (by omega) (by decide) dX8_pays_170 ?_
                              refine lv_icmp_ge (tgt := 190) hx hb dX8_pays_171 (by decide) (fun c_171 => ?_) (fun c_171 => ?_)
                              · skip
                                refine lv_iinc (v := (nI (k2 + 1))) (lv' := [(6, .int (nI (k2 + 1))), (4, .int 1), (3, .int (has3 - (fOW k2))), (7, .int (fOW k2)), (0, .ref aM), (1, .int (nI mm)), (2, .int (nI rnd)), (5, .int (nI rr))]) hx hb dX8_pays_190 hl (k := 7) rfl (nI_inc k2 1 (by decide)) (by decide) rfl (fun ls hl => ?_)
                                refine lv_goto (tgt := 65) hx hb dX8_pays_193 (by decide) ?_
                                exact ih_65 (k2 + 1) (has3 - (fOW k2)) 1 (upd PD3 k2 (fOW k2)) FA3 (by omega) (by omega) (PY_take HC hAb I3 (by omega) (by omega) c_94 ((ix_is (hdb _ (by omega)) (by omega) (by omega)).mp c_82) (by first | exact Or.inl ⟨c_108, rfl⟩ | exact Or.inr ⟨c_108, rfl⟩) (by first | exact Or.inl ⟨rfl, Or.inl c_140⟩ | exact Or.inl ⟨rfl, Or.inr c_152⟩ | exact Or.inr ⟨rfl, c_140, c_152⟩) (by first | exact Or.inr ⟨rfl, Or.inl c_171⟩ | exact Or.inr ⟨rfl, Or.inr c_180⟩ | exact Or.inl ⟨rfl, c_171, c_180⟩)) _ _ (hP) (hD) hS ls (lv_sub hl [4, 5, 6, 2, 1, 7, 0] rfl)
                              · skip
                                refine lv_aload_n hx hb dX8_pays_174 rfl (lv_at hl 3 rfl) ?_
                                refine va_get (D := D) (ci := 8) (v := .ref (mA 34)) (C := RX8) (T := TX8) (N := 44) hx hb hts inX8 hown hK hP 0 rfl rfl 34 (by decide) fl72 (fun _ h9 => h9) rfl dX8_pays_175 ?_
                                refine lv_iload_n hx hb dX8_pays_178 rfl (lv_at hl 4 rfl) ?_
                                refine m_iald (k := mm) hx hb hK hP 8 0 rfl rfl (by omega) (by decide) dX8_pays_179 ?_
                                refine lv_if_ne (tgt := 190) hx hb dX8_pays_180 (by decide) (fun c_180 => ?_) (fun c_180 => ?_)
                                · skip
                                  refine lv_iinc (v := (nI (k2 + 1))) (lv' := [(6, .int (nI (k2 + 1))), (4, .int 1), (3, .int (has3 - (fOW k2))), (7, .int (fOW k2)), (0, .ref aM), (1, .int (nI mm)), (2, .int (nI rnd)), (5, .int (nI rr))]) hx hb dX8_pays_190 hl (k := 7) rfl (nI_inc k2 1 (by decide)) (by decide) rfl (fun ls hl => ?_)
                                  refine lv_goto (tgt := 65) hx hb dX8_pays_193 (by decide) ?_
                                  exact ih_65 (k2 + 1) (has3 - (fOW k2)) 1 (upd PD3 k2 (fOW k2)) FA3 (by omega) (by omega) (PY_take HC hAb I3 (by omega) (by omega) c_94 ((ix_is (hdb _ (by omega)) (by omega) (by omega)).mp c_82) (by first | exact Or.inl ⟨c_108, rfl⟩ | exact Or.inr ⟨c_108, rfl⟩) (by first | exact Or.inl ⟨rfl, Or.inl c_140⟩ | exact Or.inl ⟨rfl, Or.inr c_152⟩ | exact Or.inr ⟨rfl, c_140, c_152⟩) (by first | exact Or.inr ⟨rfl, Or.inl c_171⟩ | exact Or.inr ⟨rfl, Or.inr c_180⟩ | exact Or.inl ⟨rfl, c_171, c_180⟩)) _ _ (hP) (hD) hS ls (lv_sub hl [4, 5, 6, 2, 1, 7, 0] rfl)
                                · skip
                                  refine lv_aload_n hx hb dX8_pays_183 rfl (lv_at hl 3 rfl) ?_
                                  refine va_get (D := D) (ci := 8) (v := .ref (mA 34)) (C := RX8) (T := TX8) (N := 44) hx hb hts inX8 hown hK hP 0 rfl rfl 34 (by decide) fl72 (fun _ h9 => h9) rfl dX8_pays_184 ?_
                                  refine lv_iload_n hx hb dX8_pays_187 rfl (lv_at hl 4 rfl) ?_
                                  refine lv_iload_n hx hb dX8_pays_188 rfl (lv_at hl 5 rfl) ?_
                                  refine m_iast (k := mm) (x := (nI rnd)) hx hb hK hP hD hS 8 0 rfl rfl (by omega) (by decide) dX8_pays_189 (fun H locs hP hD hS => ?_)
                                  have hP : va_P D vwCl [mo aM mA (nI nt) th td (nI nm) (nI np) isd ln rf rp sz nx kd wh pl rd rn ic mcm mcp mcr, ar cI (mA 5) 10 fPU, ar cI (mA 8) 40 fCR, ar cI (mA 33) 40 fWS, ar cI (mA 7) 40 fDB, ar cI (mA 31) 40 fRS, ar cI (mA 30) 40 fOW, ar cI (mA 32) 40 (upd PD3 k2 (fOW k2)), ar cI (mA 34) 10 (upd FA3 mm (nI rnd))] H := hP
                                  have hD : va_D A [mo aM mA (nI nt) th td (nI nm) (nI np) isd ln rf rp sz nx kd wh pl rd rn ic mcm mcp mcr, ar cI (mA 5) 10 fPU, ar cI (mA 8) 40 fCR, ar cI (mA 33) 40 fWS, ar cI (mA 7) 40 fDB, ar cI (mA 31) 40 fRS, ar cI (mA 30) 40 fOW, ar cI (mA 32) 40 (upd PD3 k2 (fOW k2)), ar cI (mA 34) 10 (upd FA3 mm (nI rnd))] := hD
                                  refine lv_iinc (v := (nI (k2 + 1))) (lv' := [(6, .int (nI (k2 + 1))), (4, .int 1), (3, .int (has3 - (fOW k2))), (7, .int (fOW k2)), (0, .ref aM), (1, .int (nI mm)), (2, .int (nI rnd)), (5, .int (nI rr))]) hx hb dX8_pays_190 hl (k := 7) rfl (nI_inc k2 1 (by decide)) (by decide) rfl (fun ls hl => ?_)
                                  refine lv_goto (tgt := 65) hx hb dX8_pays_193 (by decide) ?_
                                  exact ih_65 (k2 + 1) (has3 - (fOW k2)) 1 (upd PD3 k2 (fOW k2)) (upd FA3 mm (nI rnd)) (by omega) (by omega) (PY_take HC hAb I3 (by omega) (by omega) c_94 ((ix_is (hdb _ (by omega)) (by omega) (by omega)).mp c_82) (by first | exact Or.inl ⟨c_108, rfl⟩ | exact Or.inr ⟨c_108, rfl⟩) (by first | exact Or.inl ⟨rfl, Or.inl c_140⟩ | exact Or.inl ⟨rfl, Or.inr c_152⟩ | exact Or.inr ⟨rfl, c_140, c_152⟩) (by first | exact Or.inr ⟨rfl, Or.inl c_171⟩ | exact Or.inr ⟨rfl, Or.inr c_180⟩ | exact Or.inl ⟨rfl, c_171, c_180⟩)) _ _ (hP) (hD) hS ls (lv_sub hl [4, 5, 6, 2, 1, 7, 0] rfl)
                      · skip
                        refine lv_goto (tgt := 190) hx hb dX8_pays_97 (by decide) ?_
                        refine lv_iinc (v := (nI (k2 + 1))) (lv' := [(6, .int (nI (k2 + 1))), (0, .ref aM), (1, .int (nI mm)), (2, .int (nI rnd)), (3, .int has3), (4, .int ot3), (5, .int (nI rr))]) hx hb dX8_pays_190 hl (k := 6) rfl (nI_inc k2 1 (by decide)) (by decide) rfl (fun ls hl => ?_)
                        refine lv_goto (tgt := 65) hx hb dX8_pays_193 (by decide) ?_
                        exact ih_65 (k2 + 1) has3 ot3 PD3 FA3 (by omega) (by omega) (by first | exact PY_miss I3 c_94 | exact PY_pass I3 (by omega) (by omega) (fun q => c_82 ((ix_is (hdb _ (by omega)) (by omega) (by omega)).mpr q))) _ _ (hP) (hD) hS ls (lv_sub hl [1, 2, 3, 4, 5, 6, 0] rfl)
              exact L_65 ((np - 0) + 1) 0 has2 ot PD2 FA2 (Nat.lt_succ_self _) (by omega) (by simpa [rowO] using I2) _ _ (hP) (hD) hS ls (lv_sub hl [1, 2, 3, 4, 5, 6, 0] rfl)
        exact L_56 ((4 - 0) + 1) 0 has 0 fPD fFA (Nat.lt_succ_self _) (by omega) (PY_entry HC hAb.1 (by rw [ha]; congr 2; omega)) _ _ (hP) (hD) hS ls (lv_sub hl [2, 3, 4, 5, 1, 0] rfl)
      · skip
        have k_16 : ¬ np ≤ k := fun h9 => c_16 ((nI_leI (a := np) (b := k) (by omega) (by omega)).mpr h9)
        refine lv_iload_n hx hb dX8_pays_19 rfl (lv_at hl 3 rfl) ?_
        refine lv_aload_n hx hb dX8_pays_20 rfl (lv_at hl 0 rfl) ?_
        refine va_get (D := D) (ci := 8) (v := .ref (mA 8)) (C := RX8) (T := TX8) (N := 44) hx hb hts inX8 hown hK hP 0 rfl rfl 8 (by decide) fl19 (fun _ h9 => h9) rfl dX8_pays_21 ?_
        refine lv_iload hx hb dX8_pays_24 (lv_at hl 4 rfl) ?_
        refine m_iald (k := k) hx hb hK hP 2 0 rfl rfl (by omega) (by decide) dX8_pays_26 ?_
        refine lv_iload_n hx hb dX8_pays_27 rfl (lv_at hl 1 rfl) ?_
        refine lv_icmp_ne (tgt := 41) hx hb dX8_pays_28 (by decide) (fun c_28 => ?_) (fun c_28 => ?_)
        · skip
          refine lv_iconst (v := 0) hx hb dX8_pays_41 (by decide) ?_
          refine lv_iadd hx hb dX8_pays_42 ?_
          refine lv_istore_n (lv' := [(3, .int (has + 0)), (0, .ref aM), (1, .int (nI mm)), (2, .int (nI rnd)), (4, .int (nI k))]) hx hb dX8_pays_43 rfl hl (by decide) rfl (fun ls hl => ?_)
          refine lv_iinc (v := (nI (k + 1))) (lv' := [(4, .int (nI (k + 1))), (3, .int (has + 0)), (0, .ref aM), (1, .int (nI mm)), (2, .int (nI rnd))]) hx hb dX8_pays_44 hl (k := 4) rfl (nI_inc k 1 (by decide)) (by decide) rfl (fun ls hl => ?_)
          refine lv_goto (tgt := 10) hx hb dX8_pays_47 (by decide) ?_
          exact ih_10 (k + 1) (has + 0) (by omega) (by omega) (rec_step HC (by omega) ha (by first | exact Or.inl ⟨c_28, rfl⟩ | exact Or.inr ⟨c_28, rfl⟩)) _ _ (hP) (hD) hS ls (lv_sub hl [2, 3, 4, 1, 0] rfl)
        · skip
          refine lv_aload_n hx hb dX8_pays_31 rfl (lv_at hl 0 rfl) ?_
          refine va_get (D := D) (ci := 8) (v := .ref (mA 33)) (C := RX8) (T := TX8) (N := 44) hx hb hts inX8 hown hK hP 0 rfl rfl 33 (by decide) fl69 (fun _ h9 => h9) rfl dX8_pays_32 ?_
          refine lv_iload hx hb dX8_pays_35 (lv_at hl 4 rfl) ?_
          refine m_iald (k := k) hx hb hK hP 3 0 rfl rfl (by omega) (by decide) dX8_pays_37 ?_
          refine lv_goto (tgt := 42) hx hb dX8_pays_38 (by decide) ?_
          refine lv_iadd hx hb dX8_pays_42 ?_
          refine lv_istore_n (lv' := [(3, .int (has + (fWS k))), (0, .ref aM), (1, .int (nI mm)), (2, .int (nI rnd)), (4, .int (nI k))]) hx hb dX8_pays_43 rfl hl (by decide) rfl (fun ls hl => ?_)
          refine lv_iinc (v := (nI (k + 1))) (lv' := [(4, .int (nI (k + 1))), (3, .int (has + (fWS k))), (0, .ref aM), (1, .int (nI mm)), (2, .int (nI rnd))]) hx hb dX8_pays_44 hl (k := 4) rfl (nI_inc k 1 (by decide)) (by decide) rfl (fun ls hl => ?_)
          refine lv_goto (tgt := 10) hx hb dX8_pays_47 (by decide) ?_
          exact ih_10 (k + 1) (has + (fWS k)) (by omega) (by omega) (rec_step HC (by omega) ha (by first | exact Or.inl ⟨c_28, rfl⟩ | exact Or.inr ⟨c_28, rfl⟩)) _ _ (hP) (hD) hS ls (lv_sub hl [2, 3, 4, 1, 0] rfl)
  exact L_10 ((np - 0) + 1) 0 (fPU mm) (Nat.lt_succ_self _) (by omega) (by simp [recS, sI]) _ _ (hP) (hD) hS ls (lv_sub hl [2, 3, 4, 1, 0] rfl)
abbrev r_c_X8_works : Room := { frames := 2, cells := 0, slots := 0, locals := 43 }
set_option maxHeartbeats 4000000 in
set_option maxRecDepth 100000 in
theorem c_X8_works (l : Launch) (D : va_G) (cI cZ : ClassId) (aM : Nat) (mA : Nat → Nat) (nt : Nat) (th : Int32) (td : Int32) (nm : Nat) (np : Nat) (isd : Int32) (ln : Int32) (rf : Int32) (rp : Int32) (sz : Int32) (nx : Int32) (kd : Int32) (wh : Int32) (pl : Int32) (rd : Int32) (rn : Int32) (ic : Int32) (mcm : Int32) (mcp : Int32) (mcr : Int32) (fRU : Nat → Int32) (fDY : Nat → Int32) (fLF : Nat → Int32) (fRK : Nat → Int32) (fOW : Nat → Int32) (fRS : Nat → Int32) (fPD : Nat → Int32) (fWS : Nat → Int32) (fFA : Nat → Int32) (fPU : Nat → Int32) (fCR : Nat → Int32) (fDB : Nat → Int32) (x : Int32) (HP : papOk np nm fDB fCR fRK fLF fPU) (hdu : ∀ k, k < np → 0 ≤ ((if x = 0 then fLF else fun j => mLeft fRU (fLF j) (fRK j) (fDY j)) k).toInt ∧ ((if x = 0 then fLF else fun j => mLeft fRU (fLF j) (fRK j) (fDY j)) k).toInt ≤ 999) (hro : rkOk (if x = 0 then fRK else fun j => mRank fRU (fRK j) (fDY j)) np) : MV l yX8_works wsX8_works r_c_X8_works D cI cZ [.ref aM, .int x] [mo aM mA (nI nt) th td (nI nm) (nI np) isd ln rf rp sz nx kd wh pl rd rn ic mcm mcp mcr, ar cI (mA 19) 20 fRU, ar cI (mA 15) 40 fDY, ar cI (mA 14) 40 fLF, ar cI (mA 13) 40 fRK, ar cI (mA 30) 40 fOW, ar cI (mA 31) 40 fRS, ar cI (mA 32) 40 fPD, ar cI (mA 33) 40 fWS, ar cI (mA 34) 10 fFA, ar cI (mA 5) 10 fPU, ar cI (mA 8) 40 fCR, ar cI (mA 7) 40 fDB] (fun (u : (Nat → Int32) × (Nat → Int32) × (Nat → Int32) × (Nat → Int32) × (Nat → Int32) × Nat) => u.1 = fil (if x = 0 then fLF else fun j => mLeft fRU (fLF j) (fRK j) (fDY j)) fOW np ∧ u.2.1 = fil (if x = 0 then fRK else fun j => mRank fRU (fRK j) (fDY j)) fRS np ∧ isR nm (TRF fDB fCR (owG u.1 np) (odF u.2.1 np) np (fun m => (fPU m).toInt)) u.2.2.2.2.2 ∧ u.2.2.2.2.2 ≤ 39960 ∧ MSt np nm fDB (odF u.2.1 np) (owG u.1 np) ((TRF fDB fCR (owG u.1 np) (odF u.2.1 np) np (fun m => (fPU m).toInt)) u.2.2.2.2.2) (fun m => failR (TRF fDB fCR (owG u.1 np) (odF u.2.1 np) np (fun m => (fPU m).toInt)) m u.2.2.2.2.2) u.2.2.1 u.2.2.2.2.1) (fun (u : (Nat → Int32) × (Nat → Int32) × (Nat → Int32) × (Nat → Int32) × (Nat → Int32) × Nat) => [mo aM mA (nI nt) th td (nI nm) (nI np) isd ln rf rp sz nx kd wh pl rd (nI u.2.2.2.2.2) ic mcm mcp mcr, ar cI (mA 19) 20 fRU, ar cI (mA 15) 40 fDY, ar cI (mA 14) 40 fLF, ar cI (mA 13) 40 fRK, ar cI (mA 30) 40 u.1, ar cI (mA 31) 40 u.2.1, ar cI (mA 32) 40 u.2.2.1, ar cI (mA 33) 40 u.2.2.2.1, ar cI (mA 34) 10 u.2.2.2.2.1, ar cI (mA 5) 10 fPU, ar cI (mA 8) 40 fCR, ar cI (mA 7) 40 fDB]) 0 0 := by
  refine MV.of (cc := cX8_works) (maxL := 5) (by decide) rfl (Nat.le_of_ble_eq_true rfl) ?_
  intro p e s m below meth c A Q hx hb hml hown hts hN hK hA ret hP hD hS ls hl hmn
  have hown : s.vm.findClass RX8 = some m.cls := hown
  have inX8 : ∀ w ∈ wsX80, w ∈ wsX8_works := by decide +kernel
  have fl34 := hts (.fieldLink RX8 34 "AdvanceBookModel" "rank" "[I") (by decide +kernel)
  have fl37 := hts (.fieldLink RX8 37 "AdvanceBookModel" "left" "[I") (by decide +kernel)
  have fl60 := hts (.fieldLink RX8 60 "AdvanceBookModel" "owed" "[I") (by decide +kernel)
  have fl63 := hts (.fieldLink RX8 63 "AdvanceBookModel" "ranks" "[I") (by decide +kernel)
  have fl66 := hts (.fieldLink RX8 66 "AdvanceBookModel" "paid" "[I") (by decide +kernel)
  have fl69 := hts (.fieldLink RX8 69 "AdvanceBookModel" "was" "[I") (by decide +kernel)
  have fl72 := hts (.fieldLink RX8 72 "AdvanceBookModel" "failed" "[I") (by decide +kernel)
  have fl94 := hts (.fieldLink RX8 94 "AdvanceBookModel" "men" "I") (by decide +kernel)
  have fl101 := hts (.fieldLink RX8 101 "AdvanceBookModel" "papers" "I") (by decide +kernel)
  have fl176 := hts (.fieldLink RX8 176 "AdvanceBookModel" "rounds" "I") (by decide +kernel)
  have hP : va_P D vwCl [mo aM mA (nI nt) th td (nI nm) (nI np) isd ln rf rp sz nx kd wh pl rd rn ic mcm mcp mcr, ar cI (mA 19) 20 fRU, ar cI (mA 15) 40 fDY, ar cI (mA 14) 40 fLF, ar cI (mA 13) 40 fRK, ar cI (mA 30) 40 fOW, ar cI (mA 31) 40 fRS, ar cI (mA 32) 40 fPD, ar cI (mA 33) 40 fWS, ar cI (mA 34) 10 fFA, ar cI (mA 5) 10 fPU, ar cI (mA 8) 40 fCR, ar cI (mA 7) 40 fDB] s.heap := hP
  have hD : va_D A [mo aM mA (nI nt) th td (nI nm) (nI np) isd ln rf rp sz nx kd wh pl rd rn ic mcm mcp mcr, ar cI (mA 19) 20 fRU, ar cI (mA 15) 40 fDY, ar cI (mA 14) 40 fLF, ar cI (mA 13) 40 fRK, ar cI (mA 30) 40 fOW, ar cI (mA 31) 40 fRS, ar cI (mA 32) 40 fPD, ar cI (mA 33) 40 fWS, ar cI (mA 34) 10 fFA, ar cI (mA 5) 10 fPU, ar cI (mA 8) 40 fCR, ar cI (mA 7) 40 fDB] := hD
  have hl : lv_has ls 5 [(0, .ref aM), (1, .int x)] := hl
  have hnp := HP.1
  have hnm := HP.2.1
  have hrk := HP.2.2.2.2.1
  refine lv_iconst (v := 0) hx hb dX8_works_0 (by decide) ?_
  refine lv_istore_n (lv' := [(2, .int 0), (0, .ref aM), (1, .int x)]) hx hb dX8_works_1 rfl hl (by decide) rfl (fun ls hl => ?_)
  have L_2 : ∀ (n_2 : Nat) (k : Nat) (OW1 : Nat → Int32) (RS1 : Nat → Int32) (PD1 : Nat → Int32), (np - k < n_2) → (k ≤ np) → (OW1 = fil (if x = 0 then fLF else fun j => mLeft fRU (fLF j) (fRK j) (fDY j)) fOW k) → (RS1 = fil (if x = 0 then fRK else fun j => mRank fRU (fRK j) (fDY j)) fRS k) → (PD1 = fil (if x = 0 then fLF else fun j => mLeft fRU (fLF j) (fRK j) (fDY j)) fPD k) → ∀ (H : Heap) (locs : List Loc), va_P D vwCl [mo aM mA (nI nt) th td (nI nm) (nI np) isd ln rf rp sz nx kd wh pl rd rn ic mcm mcp mcr, ar cI (mA 19) 20 fRU, ar cI (mA 15) 40 fDY, ar cI (mA 14) 40 fLF, ar cI (mA 13) 40 fRK, ar cI (mA 30) 40 OW1, ar cI (mA 31) 40 RS1, ar cI (mA 32) 40 PD1, ar cI (mA 33) 40 fWS, ar cI (mA 34) 10 fFA, ar cI (mA 5) 10 fPU, ar cI (mA 8) 40 fCR, ar cI (mA 7) 40 fDB] H → va_D A [mo aM mA (nI nt) th td (nI nm) (nI np) isd ln rf rp sz nx kd wh pl rd rn ic mcm mcp mcr, ar cI (mA 19) 20 fRU, ar cI (mA 15) 40 fDY, ar cI (mA 14) 40 fLF, ar cI (mA 13) 40 fRK, ar cI (mA 30) 40 OW1, ar cI (mA 31) 40 RS1, ar cI (mA 32) 40 PD1, ar cI (mA 33) 40 fWS, ar cI (mA 34) 10 fFA, ar cI (mA 5) 10 fPU, ar cI (mA 8) 40 fCR, ar cI (mA 7) 40 fDB] → va_S A s.heap H locs → ∀ ls : Array Slot, lv_has ls 5 [(0, .ref aM), (1, .int x), (2, .int (nI k))] → W p l e r_c_X8_works s m (([.ref aM, .int x] : List Value).toArray) below meth c H locs 0 0 Q (F0 m 2 ls []) := by
    intro n_2
    induction n_2 with
    | zero => intro k OW1 RS1 PD1 hfu; exact absurd hfu (Nat.not_lt_zero _)
    | succ n_2 ih_2 =>
      intro k OW1 RS1 PD1 hfu_2 hk e1 e2 e3 H locs hP hD hS ls hl
      refine lv_iload_n hx hb dX8_works_2 rfl (lv_at hl 2 rfl) ?_
      refine lv_aload_n hx hb dX8_works_3 rfl (lv_at hl 0 rfl) ?_
      refine va_get (D := D) (ci := 8) (v := .int (nI np)) (C := RX8) (T := TX8) (N := 44) hx hb hts inX8 hown hK hP 0 rfl rfl 6 (by decide) fl101 (fun _ h9 => h9) rfl dX8_works_4 ?_
      refine lv_icmp_ge (tgt := 76) hx hb dX8_works_7 (by decide) (fun c_7 => ?_) (fun c_7 => ?_)
      · skip
        have k_7 : np ≤ k := (nI_leI (a := np) (b := k) (by omega) (by omega)).mp c_7
        refine lv_iconst (v := 0) hx hb dX8_works_76 (by decide) ?_
        refine lv_istore_n (lv' := [(2, .int 0), (0, .ref aM), (1, .int x)]) hx hb dX8_works_77 rfl hl (by decide) rfl (fun ls hl => ?_)
        have L_78 : ∀ (n_78 : Nat) (m2 : Nat) (FA1 : Nat → Int32), (nm - m2 < n_78) → (m2 ≤ nm) → (FA1 = fil (fun _ => 0) fFA m2) → ∀ (H : Heap) (locs : List Loc), va_P D vwCl [mo aM mA (nI nt) th td (nI nm) (nI np) isd ln rf rp sz nx kd wh pl rd rn ic mcm mcp mcr, ar cI (mA 19) 20 fRU, ar cI (mA 15) 40 fDY, ar cI (mA 14) 40 fLF, ar cI (mA 13) 40 fRK, ar cI (mA 30) 40 OW1, ar cI (mA 31) 40 RS1, ar cI (mA 32) 40 PD1, ar cI (mA 33) 40 fWS, ar cI (mA 34) 10 FA1, ar cI (mA 5) 10 fPU, ar cI (mA 8) 40 fCR, ar cI (mA 7) 40 fDB] H → va_D A [mo aM mA (nI nt) th td (nI nm) (nI np) isd ln rf rp sz nx kd wh pl rd rn ic mcm mcp mcr, ar cI (mA 19) 20 fRU, ar cI (mA 15) 40 fDY, ar cI (mA 14) 40 fLF, ar cI (mA 13) 40 fRK, ar cI (mA 30) 40 OW1, ar cI (mA 31) 40 RS1, ar cI (mA 32) 40 PD1, ar cI (mA 33) 40 fWS, ar cI (mA 34) 10 FA1, ar cI (mA 5) 10 fPU, ar cI (mA 8) 40 fCR, ar cI (mA 7) 40 fDB] → va_S A s.heap H locs → ∀ ls : Array Slot, lv_has ls 5 [(0, .ref aM), (1, .int x), (2, .int (nI m2))] → W p l e r_c_X8_works s m (([.ref aM, .int x] : List Value).toArray) below meth c H locs 0 0 Q (F0 m 78 ls []) := by
          intro n_78
          induction n_78 with
          | zero => intro m2 FA1 hfu; exact absurd hfu (Nat.not_lt_zero _)
          | succ n_78 ih_78 =>
            intro m2 FA1 hfu_78 hm2 eF H locs hP hD hS ls hl
            refine lv_iload_n hx hb dX8_works_78 rfl (lv_at hl 2 rfl) ?_
            refine lv_aload_n hx hb dX8_works_79 rfl (lv_at hl 0 rfl) ?_
            refine va_get (D := D) (ci := 8) (v := .int (nI nm)) (C := RX8) (T := TX8) (N := 44) hx hb hts inX8 hown hK hP 0 rfl rfl 4 (by decide) fl94 (fun _ h9 => h9) rfl dX8_works_80 ?_
            refine lv_icmp_ge (tgt := 99) hx hb dX8_works_83 (by decide) (fun c_83 => ?_) (fun c_83 => ?_)
            · skip
              have k_83 : nm ≤ m2 := (nI_leI (a := nm) (b := m2) (by omega) (by omega)).mp c_83
              have ek : k = np := (by omega)
              rw [ek] at e1 e2 e3
              have hOW : ∀ j, j < np → OW1 j = (if x = 0 then fLF else fun j => mLeft fRU (fLF j) (fRK j) (fDY j)) j := (fun j hj => by rw [e1]; simp only [fil, if_pos hj])
              have hRS : ∀ j, j < np → RS1 j = (if x = 0 then fRK else fun j => mRank fRU (fRK j) (fDY j)) j := (fun j hj => by rw [e2]; simp only [fil, if_pos hj])
              have hPD : ∀ j, j < np → PD1 j = OW1 j := (fun j hj => by rw [hOW j hj, e3]; simp only [fil, if_pos hj])
              have hro1 : rkOk RS1 np := (fun j hj => by rw [hRS j hj]; exact hro j hj)
              have how1 : ∀ j, j < np → 0 ≤ (OW1 j).toInt ∧ (OW1 j).toInt ≤ 999 := (fun j hj => by rw [hOW j hj]; exact hdu j hj)
              have HC := clcM_ok HP hro1 how1
              refine lv_aload_n hx hb dX8_works_99 rfl (lv_at hl 0 rfl) ?_
              refine lv_iconst (v := 0) hx hb dX8_works_100 (by decide) ?_
              refine va_put (D := D) (ci := 8) (v := .int 0) (ty := .int) (C := RX8) (T := TX8) (N := 44) hx hb hts inX8 tyX8 tyX8_ok nmX8 hown hK hP hD hS 0 rfl rfl 35 (by decide) fl176 (fun _ h9 => h9) rfl (by decide +kernel) (rfl) (rfl) (Nat.le_of_ble_eq_true rfl) dX8_works_101 (fun H locs hP hD hS => ?_)
              have hP : va_P D vwCl [mo aM mA (nI nt) th td (nI nm) (nI np) isd ln rf rp sz nx kd wh pl rd 0 ic mcm mcp mcr, ar cI (mA 19) 20 fRU, ar cI (mA 15) 40 fDY, ar cI (mA 14) 40 fLF, ar cI (mA 13) 40 fRK, ar cI (mA 30) 40 OW1, ar cI (mA 31) 40 RS1, ar cI (mA 32) 40 PD1, ar cI (mA 33) 40 fWS, ar cI (mA 34) 10 FA1, ar cI (mA 5) 10 fPU, ar cI (mA 8) 40 fCR, ar cI (mA 7) 40 fDB] H := hP
              have hD : va_D A [mo aM mA (nI nt) th td (nI nm) (nI np) isd ln rf rp sz nx kd wh pl rd 0 ic mcm mcp mcr, ar cI (mA 19) 20 fRU, ar cI (mA 15) 40 fDY, ar cI (mA 14) 40 fLF, ar cI (mA 13) 40 fRK, ar cI (mA 30) 40 OW1, ar cI (mA 31) 40 RS1, ar cI (mA 32) 40 PD1, ar cI (mA 33) 40 fWS, ar cI (mA 34) 10 FA1, ar cI (mA 5) 10 fPU, ar cI (mA 8) 40 fCR, ar cI (mA 7) 40 fDB] := hD
              refine lv_iconst (v := 1) hx hb dX8_works_104 (by decide) ?_
              refine lv_istore_n (lv' := [(2, .int 1), (0, .ref aM), (1, .int x)]) hx hb dX8_works_105 rfl hl (by decide) rfl (fun ls hl => ?_)
              refine lv_iconst (v := 0) hx hb dX8_works_106 (by decide) ?_
              refine lv_istore_n (lv' := [(3, .int 0), (2, .int 1), (0, .ref aM), (1, .int x)]) hx hb dX8_works_107 rfl hl (by decide) rfl (fun ls hl => ?_)
              have L_108 : ∀ (n_108 : Nat) (q : Nat) (mq : Int32) (rnv : Int32) (PD2 : Nat → Int32) (WS1 : Nat → Int32) (FA2 : Nat → Int32), (39962 - q < n_108) → (MKinv np nm fDB fCR (odF RS1 np) (owG OW1 np) (fun m => (fPU m).toInt) q mq rnv PD2 FA2) → ∀ (H : Heap) (locs : List Loc), va_P D vwCl [mo aM mA (nI nt) th td (nI nm) (nI np) isd ln rf rp sz nx kd wh pl rd rnv ic mcm mcp mcr, ar cI (mA 19) 20 fRU, ar cI (mA 15) 40 fDY, ar cI (mA 14) 40 fLF, ar cI (mA 13) 40 fRK, ar cI (mA 30) 40 OW1, ar cI (mA 31) 40 RS1, ar cI (mA 32) 40 PD2, ar cI (mA 33) 40 WS1, ar cI (mA 34) 10 FA2, ar cI (mA 5) 10 fPU, ar cI (mA 8) 40 fCR, ar cI (mA 7) 40 fDB] H → va_D A [mo aM mA (nI nt) th td (nI nm) (nI np) isd ln rf rp sz nx kd wh pl rd rnv ic mcm mcp mcr, ar cI (mA 19) 20 fRU, ar cI (mA 15) 40 fDY, ar cI (mA 14) 40 fLF, ar cI (mA 13) 40 fRK, ar cI (mA 30) 40 OW1, ar cI (mA 31) 40 RS1, ar cI (mA 32) 40 PD2, ar cI (mA 33) 40 WS1, ar cI (mA 34) 10 FA2, ar cI (mA 5) 10 fPU, ar cI (mA 8) 40 fCR, ar cI (mA 7) 40 fDB] → va_S A s.heap H locs → ∀ ls : Array Slot, lv_has ls 5 [(0, .ref aM), (2, .int mq), (3, .int (nI q))] → W p l e r_c_X8_works s m (([.ref aM, .int x] : List Value).toArray) below meth c H locs 0 0 Q (F0 m 108 ls []) := by
                intro n_108
                induction n_108 with
                | zero => intro q mq rnv PD2 WS1 FA2 hfu; exact absurd hfu (Nat.not_lt_zero _)
                | succ n_108 ih_108 =>
                  intro q mq rnv PD2 WS1 FA2 hfu_108 HI H locs hP hD hS ls hl
                  have hqb := MK_few HC HI
                  refine lv_iload_n hx hb dX8_works_108 rfl (lv_at hl 1 rfl) ?_
                  refine lv_if_eq (tgt := 199) hx hb dX8_works_109 (by decide) (fun c_109 => ?_) (fun c_109 => ?_)
                  · skip
                    obtain ⟨R, hR1, hR2, hR3, hR4⟩ := MK_exit HC HI c_109
                    subst hR1
                    exact ret (OW1, RS1, PD2, WS1, FA2, R) _ _ _ _ dX8_works_199 (⟨e1, e2, hR2, hR3, hR4⟩) (hP) (hD) hS
                  · skip
                    have hmo1 := MK_mo HC HI c_109
                    refine lv_iinc (v := (nI (q + 1))) (lv' := [(3, .int (nI (q + 1))), (0, .ref aM), (2, .int mq)]) hx hb dX8_works_112 hl (k := 2) rfl (nI_inc q 1 (by decide)) (by decide) rfl (fun ls hl => ?_)
                    refine lv_iconst (v := 0) hx hb dX8_works_115 (by decide) ?_
                    refine lv_istore (lv' := [(4, .int 0), (3, .int (nI (q + 1))), (0, .ref aM), (2, .int mq)]) hx hb dX8_works_116 hl (by decide) rfl (fun ls hl => ?_)
                    have L_118 : ∀ (n_118 : Nat) (j : Nat) (WS2 : Nat → Int32), (np - j < n_118) → (j ≤ np) → (WS2 = fil PD2 WS1 j) → ∀ (H : Heap) (locs : List Loc), va_P D vwCl [mo aM mA (nI nt) th td (nI nm) (nI np) isd ln rf rp sz nx kd wh pl rd rnv ic mcm mcp mcr, ar cI (mA 19) 20 fRU, ar cI (mA 15) 40 fDY, ar cI (mA 14) 40 fLF, ar cI (mA 13) 40 fRK, ar cI (mA 30) 40 OW1, ar cI (mA 31) 40 RS1, ar cI (mA 32) 40 PD2, ar cI (mA 33) 40 WS2, ar cI (mA 34) 10 FA2, ar cI (mA 5) 10 fPU, ar cI (mA 8) 40 fCR, ar cI (mA 7) 40 fDB] H → va_D A [mo aM mA (nI nt) th td (nI nm) (nI np) isd ln rf rp sz nx kd wh pl rd rnv ic mcm mcp mcr, ar cI (mA 19) 20 fRU, ar cI (mA 15) 40 fDY, ar cI (mA 14) 40 fLF, ar cI (mA 13) 40 fRK, ar cI (mA 30) 40 OW1, ar cI (mA 31) 40 RS1, ar cI (mA 32) 40 PD2, ar cI (mA 33) 40 WS2, ar cI (mA 34) 10 FA2, ar cI (mA 5) 10 fPU, ar cI (mA 8) 40 fCR, ar cI (mA 7) 40 fDB] → va_S A s.heap H locs → ∀ ls : Array Slot, lv_has ls 5 [(0, .ref aM), (2, .int mq), (3, .int (nI (q + 1))), (4, .int (nI j))] → W p l e r_c_X8_works s m (([.ref aM, .int x] : List Value).toArray) below meth c H locs 0 0 Q (F0 m 118 ls []) := by
                      intro n_118
                      induction n_118 with
                      | zero => intro j WS2 hfu; exact absurd hfu (Nat.not_lt_zero _)
                      | succ n_118 ih_118 =>
                        intro j WS2 hfu_118 hj eW H locs hP hD hS ls hl
                        refine lv_iload hx hb dX8_works_118 (lv_at hl 3 rfl) ?_
                        refine lv_aload_n hx hb dX8_works_120 rfl (lv_at hl 0 rfl) ?_
                        refine va_get (D := D) (ci := 8) (v := .int (nI np)) (C := RX8) (T := TX8) (N := 44) hx hb hts inX8 hown hK hP 0 rfl rfl 6 (by decide) fl101 (fun _ h9 => h9) rfl dX8_works_121 ?_
                        refine lv_icmp_ge (tgt := 147) hx hb dX8_works_124 (by decide) (fun c_124 => ?_) (fun c_124 => ?_)
                        · skip
                          have k_124 : np ≤ j := (nI_leI (a := np) (b := j) (by omega) (by omega)).mp c_124
                          have ej : j = np := (by omega)
                          rw [ej] at eW
                          have hws : ∀ i, i < np → (WS2 (odF RS1 np i)).toInt = fillP (dbN fDB) (owG OW1 np) (odF RS1 np) (dbN fDB (odF RS1 np i)) ((TRF fDB fCR (owG OW1 np) (odF RS1 np) np (fun m => (fPU m).toInt)) q (dbN fDB (odF RS1 np i))) i := (fun i hi => by have z := odF_lt hro1 hi; rw [eW]; simp only [fil, if_pos z]; exact HI.1.1 i hi)
                          refine lv_iconst (v := 0) hx hb dX8_works_147 (by decide) ?_
                          refine lv_istore_n (lv' := [(2, .int 0), (0, .ref aM), (3, .int (nI (q + 1))), (4, .int (nI j))]) hx hb dX8_works_148 rfl hl (by decide) rfl (fun ls hl => ?_)
                          refine lv_iconst (v := 0) hx hb dX8_works_149 (by decide) ?_
                          refine lv_istore (lv' := [(4, .int 0), (2, .int 0), (0, .ref aM), (3, .int (nI (q + 1)))]) hx hb dX8_works_150 hl (by decide) rfl (fun ls hl => ?_)
                          have L_152 : ∀ (n_152 : Nat) (mm : Nat) (mo2 : Int32) (PD3 : Nat → Int32) (FA3 : Nat → Int32), (nm - mm < n_152) → (MRinv np nm fDB fCR (odF RS1 np) (owG OW1 np) (fun m => (fPU m).toInt) q mm mo2 PD3 FA3) → ∀ (H : Heap) (locs : List Loc), va_P D vwCl [mo aM mA (nI nt) th td (nI nm) (nI np) isd ln rf rp sz nx kd wh pl rd rnv ic mcm mcp mcr, ar cI (mA 19) 20 fRU, ar cI (mA 15) 40 fDY, ar cI (mA 14) 40 fLF, ar cI (mA 13) 40 fRK, ar cI (mA 30) 40 OW1, ar cI (mA 31) 40 RS1, ar cI (mA 32) 40 PD3, ar cI (mA 33) 40 WS2, ar cI (mA 34) 10 FA3, ar cI (mA 5) 10 fPU, ar cI (mA 8) 40 fCR, ar cI (mA 7) 40 fDB] H → va_D A [mo aM mA (nI nt) th td (nI nm) (nI np) isd ln rf rp sz nx kd wh pl rd rnv ic mcm mcp mcr, ar cI (mA 19) 20 fRU, ar cI (mA 15) 40 fDY, ar cI (mA 14) 40 fLF, ar cI (mA 13) 40 fRK, ar cI (mA 30) 40 OW1, ar cI (mA 31) 40 RS1, ar cI (mA 32) 40 PD3, ar cI (mA 33) 40 WS2, ar cI (mA 34) 10 FA3, ar cI (mA 5) 10 fPU, ar cI (mA 8) 40 fCR, ar cI (mA 7) 40 fDB] → va_S A s.heap H locs → ∀ ls : Array Slot, lv_has ls 5 [(0, .ref aM), (2, .int mo2), (3, .int (nI (q + 1))), (4, .int (nI mm))] → W p l e r_c_X8_works s m (([.ref aM, .int x] : List Value).toArray) below meth c H locs 0 0 Q (F0 m 152 ls []) := by
                            intro n_152
                            induction n_152 with
                            | zero => intro mm mo2 PD3 FA3 hfu; exact absurd hfu (Nat.not_lt_zero _)
                            | succ n_152 ih_152 =>
                              intro mm mo2 PD3 FA3 hfu_152 IM H locs hP hD hS ls hl
                              have hmm0 := IM.1
                              refine lv_iload hx hb dX8_works_152 (lv_at hl 3 rfl) ?_
                              refine lv_aload_n hx hb dX8_works_154 rfl (lv_at hl 0 rfl) ?_
                              refine va_get (D := D) (ci := 8) (v := .int (nI nm)) (C := RX8) (T := TX8) (N := 44) hx hb hts inX8 hown hK hP 0 rfl rfl 4 (by decide) fl94 (fun _ h9 => h9) rfl dX8_works_155 ?_
                              refine lv_icmp_ge (tgt := 187) hx hb dX8_works_158 (by decide) (fun c_158 => ?_) (fun c_158 => ?_)
                              · skip
                                have k_158 : nm ≤ mm := (nI_leI (a := nm) (b := mm) (by omega) (by omega)).mp c_158
                                refine lv_iload_n hx hb dX8_works_187 rfl (lv_at hl 1 rfl) ?_
                                refine lv_if_eq (tgt := 108) hx hb dX8_works_188 (by decide) (fun c_188 => ?_) (fun c_188 => ?_)
                                · skip
                                  have emm : mm = nm := (by omega)
                                  have IM2 : MRinv np nm fDB fCR (odF RS1 np) (owG OW1 np) (fun m => (fPU m).toInt) q nm mo2 PD3 FA3 := (by rw [emm] at IM; exact IM)
                                  exact ih_108 (q + 1) mo2 rnv PD3 WS2 FA3 (by have z := hmo1.2.2.1; omega) (⟨MR_end HC IM2, by first | exact Or.inr ⟨c_188, q, rfl, hmo1.2.1, hmo1.2.2.2, IM2.2.2.2.elim (fun z => absurd (z.1.symm.trans c_188) (by decide)) (fun z => z.2)⟩ | exact Or.inl (mo_up IM2.2.2.2 c_188 hmo1.2.2.2)⟩) _ _ (hP) (hD) hS ls (lv_sub hl [0, 1, 2] rfl)
                                · skip
                                  refine lv_aload_n hx hb dX8_works_191 rfl (lv_at hl 0 rfl) ?_
                                  refine lv_iload_n hx hb dX8_works_192 rfl (lv_at hl 2 rfl) ?_
                                  refine va_put (D := D) (ci := 8) (v := .int (nI (q + 1))) (ty := .int) (C := RX8) (T := TX8) (N := 44) hx hb hts inX8 tyX8 tyX8_ok nmX8 hown hK hP hD hS 0 rfl rfl 35 (by decide) fl176 (fun _ h9 => h9) rfl (by decide +kernel) (rfl) (rfl) (Nat.le_of_ble_eq_true rfl) dX8_works_193 (fun H locs hP hD hS => ?_)
                                  have hP : va_P D vwCl [mo aM mA (nI nt) th td (nI nm) (nI np) isd ln rf rp sz nx kd wh pl rd (nI (q + 1)) ic mcm mcp mcr, ar cI (mA 19) 20 fRU, ar cI (mA 15) 40 fDY, ar cI (mA 14) 40 fLF, ar cI (mA 13) 40 fRK, ar cI (mA 30) 40 OW1, ar cI (mA 31) 40 RS1, ar cI (mA 32) 40 PD3, ar cI (mA 33) 40 WS2, ar cI (mA 34) 10 FA3, ar cI (mA 5) 10 fPU, ar cI (mA 8) 40 fCR, ar cI (mA 7) 40 fDB] H := hP
                                  have hD : va_D A [mo aM mA (nI nt) th td (nI nm) (nI np) isd ln rf rp sz nx kd wh pl rd (nI (q + 1)) ic mcm mcp mcr, ar cI (mA 19) 20 fRU, ar cI (mA 15) 40 fDY, ar cI (mA 14) 40 fLF, ar cI (mA 13) 40 fRK, ar cI (mA 30) 40 OW1, ar cI (mA 31) 40 RS1, ar cI (mA 32) 40 PD3, ar cI (mA 33) 40 WS2, ar cI (mA 34) 10 FA3, ar cI (mA 5) 10 fPU, ar cI (mA 8) 40 fCR, ar cI (mA 7) 40 fDB] := hD
                                  refine lv_goto (tgt := 108) hx hb dX8_works_196 (by decide) ?_
                                  have emm : mm = nm := (by omega)
                                  have IM2 : MRinv np nm fDB fCR (odF RS1 np) (owG OW1 np) (fun m => (fPU m).toInt) q nm mo2 PD3 FA3 := (by rw [emm] at IM; exact IM)
                                  exact ih_108 (q + 1) mo2 (nI (q + 1)) PD3 WS2 FA3 (by have z := hmo1.2.2.1; omega) (⟨MR_end HC IM2, by first | exact Or.inr ⟨c_188, q, rfl, hmo1.2.1, hmo1.2.2.2, IM2.2.2.2.elim (fun z => absurd (z.1.symm.trans c_188) (by decide)) (fun z => z.2)⟩ | exact Or.inl (mo_up IM2.2.2.2 c_188 hmo1.2.2.2)⟩) _ _ (hP) (hD) hS ls (lv_sub hl [0, 1, 2] rfl)
                              · skip
                                have k_158 : ¬ nm ≤ mm := fun h9 => c_158 ((nI_leI (a := nm) (b := mm) (by omega) (by omega)).mpr h9)
                                refine lv_aload_n hx hb dX8_works_161 rfl (lv_at hl 0 rfl) ?_
                                refine lv_iload hx hb dX8_works_162 (lv_at hl 3 rfl) ?_
                                refine lv_iload_n hx hb dX8_works_164 rfl (lv_at hl 2 rfl) ?_
                                obtain ⟨hpy, hrc⟩ := MR_pre (mm := mm) (q := q) HC hro1 how1 (by omega) hws
                                refine m_cVi (As := [.int (nI mm), .int (nI (q + 1))]) (rest := []) (wr := [ar cI (mA 19) 20 fRU, ar cI (mA 15) 40 fDY, ar cI (mA 14) 40 fLF, ar cI (mA 13) 40 fRK]) ⟨hx, hb, hml, hown, hts⟩ (c_X8_pays l D cI cZ aM mA nt th td nm np isd ln rf rp sz nx kd wh pl rd rnv ic mcm mcp mcr fPU fCR WS2 fDB RS1 OW1 PD3 FA3 mm (q + 1) (hpy)) (cwV 2 hts gX8_works_X8_pays rfl rfl rfl (by decide +kernel) ⟨Nat.le_of_ble_eq_true rfl, Nat.le_of_ble_eq_true rfl⟩) hN hK hP hD hS hA [0, 10, 11, 8, 12, 6, 5, 7, 9] [1, 2, 3, 4] rfl rfl (by decide) (by decide) (by decide) 0 (ci := 8) rfl rfl rfl rfl hl.1 rfl (Nat.le_of_ble_eq_true rfl) dX8_works_165 ⟨Nat.le_of_ble_eq_true rfl, Nat.le_of_ble_eq_true rfl⟩ (fun r_165 u_165 H locs hq_165 hP hD hS => ?_)
                                obtain ⟨gPD_165, gFA_165⟩ := u_165
                                replace hq_165 : (∀ i, i < np → dbN fDB (odF RS1 np i) = mm → (gPD_165 (odF RS1 np i)).toInt = fillP (dbN fDB) (owG OW1 np) (odF RS1 np) mm ((fPU mm).toInt + recS fCR WS2 mm np) i) ∧ (∀ q, q < np → ¬ dbN fDB q = mm → gPD_165 q = PD3 q) ∧ ((r_165 = 1 ∧ ∃ i, i < np ∧ dbN fDB (odF RS1 np i) = mm ∧ ¬ fillP (dbN fDB) (owG OW1 np) (odF RS1 np) mm ((fPU mm).toInt + recS fCR WS2 mm np) i = (WS2 (odF RS1 np i)).toInt) ∨ (r_165 = 0 ∧ ∀ i, i < np → dbN fDB (odF RS1 np i) = mm → fillP (dbN fDB) (owG OW1 np) (odF RS1 np) mm ((fPU mm).toInt + recS fCR WS2 mm np) i = (WS2 (odF RS1 np i)).toInt)) ∧ ((gFA_165 = upd FA3 mm (nI (q + 1)) ∧ FA3 mm = 0 ∧ ∃ i, i < np ∧ dbN fDB (odF RS1 np i) = mm ∧ fillP (dbN fDB) (owG OW1 np) (odF RS1 np) mm ((fPU mm).toInt + recS fCR WS2 mm np) i < owG OW1 np (odF RS1 np i)) ∨ (gFA_165 = FA3 ∧ (¬ FA3 mm = 0 ∨ ∀ i, i < np → dbN fDB (odF RS1 np i) = mm → ¬ fillP (dbN fDB) (owG OW1 np) (odF RS1 np) mm ((fPU mm).toInt + recS fCR WS2 mm np) i < owG OW1 np (odF RS1 np i)))) := hq_165
                                have hP : va_P D vwCl [ar cI (mA 19) 20 fRU, ar cI (mA 15) 40 fDY, ar cI (mA 14) 40 fLF, ar cI (mA 13) 40 fRK, mo aM mA (nI nt) th td (nI nm) (nI np) isd ln rf rp sz nx kd wh pl rd rnv ic mcm mcp mcr, ar cI (mA 5) 10 fPU, ar cI (mA 8) 40 fCR, ar cI (mA 33) 40 WS2, ar cI (mA 7) 40 fDB, ar cI (mA 31) 40 RS1, ar cI (mA 30) 40 OW1, ar cI (mA 32) 40 gPD_165, ar cI (mA 34) 10 gFA_165] H := hP
                                have hD : va_D A [ar cI (mA 19) 20 fRU, ar cI (mA 15) 40 fDY, ar cI (mA 14) 40 fLF, ar cI (mA 13) 40 fRK, mo aM mA (nI nt) th td (nI nm) (nI np) isd ln rf rp sz nx kd wh pl rd rnv ic mcm mcp mcr, ar cI (mA 5) 10 fPU, ar cI (mA 8) 40 fCR, ar cI (mA 33) 40 WS2, ar cI (mA 7) 40 fDB, ar cI (mA 31) 40 RS1, ar cI (mA 30) 40 OW1, ar cI (mA 32) 40 gPD_165, ar cI (mA 34) 10 gFA_165] := hD
                                refine lv_if_ne (tgt := 175) hx hb dX8_works_168 (by decide) (fun c_168 => ?_) (fun c_168 => ?_)
                                · skip
                                  refine lv_iconst (v := 1) hx hb dX8_works_175 (by decide) ?_
                                  refine lv_goto (tgt := 180) hx hb dX8_works_176 (by decide) ?_
                                  refine lv_istore_n (lv' := [(2, .int 1), (0, .ref aM), (3, .int (nI (q + 1))), (4, .int (nI mm))]) hx hb dX8_works_180 rfl hl (by decide) rfl (fun ls hl => ?_)
                                  refine lv_iinc (v := (nI (mm + 1))) (lv' := [(4, .int (nI (mm + 1))), (2, .int 1), (0, .ref aM), (3, .int (nI (q + 1)))]) hx hb dX8_works_181 hl (k := 3) rfl (nI_inc mm 1 (by decide)) (by decide) rfl (fun ls hl => ?_)
                                  refine lv_goto (tgt := 152) hx hb dX8_works_184 (by decide) ?_
                                  have hmlt : mm < nm := (by clear hq_165; omega)
                                  have hq4 : q < 40000 := (by have z := hmo1.2.2.1; clear hq_165; omega)
                                  exact ih_152 (mm + 1) 1 gPD_165 gFA_165 (by clear hq_165; omega) (MR_step HC hq4 hmlt IM hws hrc hq_165.1 hq_165.2.1 hq_165.2.2.1 hq_165.2.2.2 (by first | exact Or.inl ⟨rfl, Or.inl c_168⟩ | exact Or.inl ⟨rfl, Or.inr c_172⟩ | exact Or.inr ⟨rfl, c_168, c_172⟩)) _ _ (hP.sub [4, 0, 1, 2, 3, 10, 9, 11, 7, 12, 5, 6, 8] rfl) (hD.sub [4, 0, 1, 2, 3, 10, 9, 11, 7, 12, 5, 6, 8] (by decide) rfl) hS ls (lv_sub hl [2, 1, 3, 0] rfl)
                                · skip
                                  refine lv_iload_n hx hb dX8_works_171 rfl (lv_at hl 1 rfl) ?_
                                  refine lv_if_eq (tgt := 179) hx hb dX8_works_172 (by decide) (fun c_172 => ?_) (fun c_172 => ?_)
                                  · skip
                                    refine lv_iconst (v := 0) hx hb dX8_works_179 (by decide) ?_
                                    refine lv_istore_n (lv' := [(2, .int 0), (0, .ref aM), (3, .int (nI (q + 1))), (4, .int (nI mm))]) hx hb dX8_works_180 rfl hl (by decide) rfl (fun ls hl => ?_)
                                    refine lv_iinc (v := (nI (mm + 1))) (lv' := [(4, .int (nI (mm + 1))), (2, .int 0), (0, .ref aM), (3, .int (nI (q + 1)))]) hx hb dX8_works_181 hl (k := 3) rfl (nI_inc mm 1 (by decide)) (by decide) rfl (fun ls hl => ?_)
                                    refine lv_goto (tgt := 152) hx hb dX8_works_184 (by decide) ?_
                                    have hmlt : mm < nm := (by clear hq_165; omega)
                                    have hq4 : q < 40000 := (by have z := hmo1.2.2.1; clear hq_165; omega)
                                    exact ih_152 (mm + 1) 0 gPD_165 gFA_165 (by clear hq_165; omega) (MR_step HC hq4 hmlt IM hws hrc hq_165.1 hq_165.2.1 hq_165.2.2.1 hq_165.2.2.2 (by first | exact Or.inl ⟨rfl, Or.inl c_168⟩ | exact Or.inl ⟨rfl, Or.inr c_172⟩ | exact Or.inr ⟨rfl, c_168, c_172⟩)) _ _ (hP.sub [4, 0, 1, 2, 3, 10, 9, 11, 7, 12, 5, 6, 8] rfl) (hD.sub [4, 0, 1, 2, 3, 10, 9, 11, 7, 12, 5, 6, 8] (by decide) rfl) hS ls (lv_sub hl [2, 1, 3, 0] rfl)
                                  · skip
                                    refine lv_iconst (v := 1) hx hb dX8_works_175 (by decide) ?_
                                    refine lv_goto (tgt := 180) hx hb dX8_works_176 (by decide) ?_
                                    refine lv_istore_n (lv' := [(2, .int 1), (0, .ref aM), (3, .int (nI (q + 1))), (4, .int (nI mm))]) hx hb dX8_works_180 rfl hl (by decide) rfl (fun ls hl => ?_)
                                    refine lv_iinc (v := (nI (mm + 1))) (lv' := [(4, .int (nI (mm + 1))), (2, .int 1), (0, .ref aM), (3, .int (nI (q + 1)))]) hx hb dX8_works_181 hl (k := 3) rfl (nI_inc mm 1 (by decide)) (by decide) rfl (fun ls hl => ?_)
                                    refine lv_goto (tgt := 152) hx hb dX8_works_184 (by decide) ?_
                                    have hmlt : mm < nm := (by clear hq_165; omega)
                                    have hq4 : q < 40000 := (by have z := hmo1.2.2.1; clear hq_165; omega)
                                    exact ih_152 (mm + 1) 1 gPD_165 gFA_165 (by clear hq_165; omega) (MR_step HC hq4 hmlt IM hws hrc hq_165.1 hq_165.2.1 hq_165.2.2.1 hq_165.2.2.2 (by first | exact Or.inl ⟨rfl, Or.inl c_168⟩ | exact Or.inl ⟨rfl, Or.inr c_172⟩ | exact Or.inr ⟨rfl, c_168, c_172⟩)) _ _ (hP.sub [4, 0, 1, 2, 3, 10, 9, 11, 7, 12, 5, 6, 8] rfl) (hD.sub [4, 0, 1, 2, 3, 10, 9, 11, 7, 12, 5, 6, 8] (by decide) rfl) hS ls (lv_sub hl [2, 1, 3, 0] rfl)
                          exact L_152 ((nm - 0) + 1) 0 0 PD2 FA2 (Nat.lt_succ_self _) (MR_entry HI.1) _ _ (hP) (hD) hS ls (lv_sub hl [2, 1, 3, 0] rfl)
                        · skip
                          have k_124 : ¬ np ≤ j := fun h9 => c_124 ((nI_leI (a := np) (b := j) (by omega) (by omega)).mpr h9)
                          refine lv_aload_n hx hb dX8_works_127 rfl (lv_at hl 0 rfl) ?_
                          refine va_get (D := D) (ci := 8) (v := .ref (mA 33)) (C := RX8) (T := TX8) (N := 44) hx hb hts inX8 hown hK hP 0 rfl rfl 33 (by decide) fl69 (fun _ h9 => h9) rfl dX8_works_128 ?_
                          refine lv_iload hx hb dX8_works_131 (lv_at hl 3 rfl) ?_
                          refine lv_aload_n hx hb dX8_works_133 rfl (lv_at hl 0 rfl) ?_
                          refine va_get (D := D) (ci := 8) (v := .ref (mA 32)) (C := RX8) (T := TX8) (N := 44) hx hb hts inX8 hown hK hP 0 rfl rfl 32 (by decide) fl66 (fun _ h9 => h9) rfl dX8_works_134 ?_
                          refine lv_iload hx hb dX8_works_137 (lv_at hl 3 rfl) ?_
                          refine m_iald (k := j) hx hb hK hP 7 0 rfl rfl (by omega) (by decide) dX8_works_139 ?_
                          refine m_iast (k := j) (x := (PD2 j)) hx hb hK hP hD hS 8 0 rfl rfl (by omega) (by decide) dX8_works_140 (fun H locs hP hD hS => ?_)
                          have hP : va_P D vwCl [mo aM mA (nI nt) th td (nI nm) (nI np) isd ln rf rp sz nx kd wh pl rd rnv ic mcm mcp mcr, ar cI (mA 19) 20 fRU, ar cI (mA 15) 40 fDY, ar cI (mA 14) 40 fLF, ar cI (mA 13) 40 fRK, ar cI (mA 30) 40 OW1, ar cI (mA 31) 40 RS1, ar cI (mA 32) 40 PD2, ar cI (mA 33) 40 (upd WS2 j (PD2 j)), ar cI (mA 34) 10 FA2, ar cI (mA 5) 10 fPU, ar cI (mA 8) 40 fCR, ar cI (mA 7) 40 fDB] H := hP
                          have hD : va_D A [mo aM mA (nI nt) th td (nI nm) (nI np) isd ln rf rp sz nx kd wh pl rd rnv ic mcm mcp mcr, ar cI (mA 19) 20 fRU, ar cI (mA 15) 40 fDY, ar cI (mA 14) 40 fLF, ar cI (mA 13) 40 fRK, ar cI (mA 30) 40 OW1, ar cI (mA 31) 40 RS1, ar cI (mA 32) 40 PD2, ar cI (mA 33) 40 (upd WS2 j (PD2 j)), ar cI (mA 34) 10 FA2, ar cI (mA 5) 10 fPU, ar cI (mA 8) 40 fCR, ar cI (mA 7) 40 fDB] := hD
                          refine lv_iinc (v := (nI (j + 1))) (lv' := [(4, .int (nI (j + 1))), (0, .ref aM), (2, .int mq), (3, .int (nI (q + 1)))]) hx hb dX8_works_141 hl (k := 3) rfl (nI_inc j 1 (by decide)) (by decide) rfl (fun ls hl => ?_)
                          refine lv_goto (tgt := 118) hx hb dX8_works_144 (by decide) ?_
                          exact ih_118 (j + 1) (upd WS2 j (PD2 j)) (by omega) (by omega) (fil_step eW rfl) _ _ (hP) (hD) hS ls (lv_sub hl [1, 2, 3, 0] rfl)
                    exact L_118 ((np - 0) + 1) 0 WS1 (Nat.lt_succ_self _) (by omega) (fil_0.symm) _ _ (hP) (hD) hS ls (lv_sub hl [2, 3, 1, 0] rfl)
              exact L_108 ((39962 - 0) + 1) 0 1 0 PD1 fWS FA1 (Nat.lt_succ_self _) (MK_entry HC hPD (fun m hm => by have e : m2 = nm := (by omega); rw [eF, e]; simp only [fil, if_pos hm])) _ _ (hP) (hD) hS ls (lv_sub hl [2, 1, 0] rfl)
            · skip
              have k_83 : ¬ nm ≤ m2 := fun h9 => c_83 ((nI_leI (a := nm) (b := m2) (by omega) (by omega)).mpr h9)
              refine lv_aload_n hx hb dX8_works_86 rfl (lv_at hl 0 rfl) ?_
              refine va_get (D := D) (ci := 8) (v := .ref (mA 34)) (C := RX8) (T := TX8) (N := 44) hx hb hts inX8 hown hK hP 0 rfl rfl 34 (by decide) fl72 (fun _ h9 => h9) rfl dX8_works_87 ?_
              refine lv_iload_n hx hb dX8_works_90 rfl (lv_at hl 2 rfl) ?_
              refine lv_iconst (v := 0) hx hb dX8_works_91 (by decide) ?_
              refine m_iast (k := m2) (x := 0) hx hb hK hP hD hS 9 0 rfl rfl (by omega) (by decide) dX8_works_92 (fun H locs hP hD hS => ?_)
              have hP : va_P D vwCl [mo aM mA (nI nt) th td (nI nm) (nI np) isd ln rf rp sz nx kd wh pl rd rn ic mcm mcp mcr, ar cI (mA 19) 20 fRU, ar cI (mA 15) 40 fDY, ar cI (mA 14) 40 fLF, ar cI (mA 13) 40 fRK, ar cI (mA 30) 40 OW1, ar cI (mA 31) 40 RS1, ar cI (mA 32) 40 PD1, ar cI (mA 33) 40 fWS, ar cI (mA 34) 10 (upd FA1 m2 0), ar cI (mA 5) 10 fPU, ar cI (mA 8) 40 fCR, ar cI (mA 7) 40 fDB] H := hP
              have hD : va_D A [mo aM mA (nI nt) th td (nI nm) (nI np) isd ln rf rp sz nx kd wh pl rd rn ic mcm mcp mcr, ar cI (mA 19) 20 fRU, ar cI (mA 15) 40 fDY, ar cI (mA 14) 40 fLF, ar cI (mA 13) 40 fRK, ar cI (mA 30) 40 OW1, ar cI (mA 31) 40 RS1, ar cI (mA 32) 40 PD1, ar cI (mA 33) 40 fWS, ar cI (mA 34) 10 (upd FA1 m2 0), ar cI (mA 5) 10 fPU, ar cI (mA 8) 40 fCR, ar cI (mA 7) 40 fDB] := hD
              refine lv_iinc (v := (nI (m2 + 1))) (lv' := [(2, .int (nI (m2 + 1))), (0, .ref aM), (1, .int x)]) hx hb dX8_works_93 hl (k := 2) rfl (nI_inc m2 1 (by decide)) (by decide) rfl (fun ls hl => ?_)
              refine lv_goto (tgt := 78) hx hb dX8_works_96 (by decide) ?_
              exact ih_78 (m2 + 1) (upd FA1 m2 0) (by omega) (by omega) (fil_step eF rfl) _ _ (hP) (hD) hS ls (lv_sub hl [1, 2, 0] rfl)
        exact L_78 ((nm - 0) + 1) 0 fFA (Nat.lt_succ_self _) (by omega) (fil_0.symm) _ _ (hP) (hD) hS ls (lv_sub hl [1, 2, 0] rfl)
      · skip
        have k_7 : ¬ np ≤ k := fun h9 => c_7 ((nI_leI (a := np) (b := k) (by omega) (by omega)).mpr h9)
        refine lv_aload_n hx hb dX8_works_10 rfl (lv_at hl 0 rfl) ?_
        refine va_get (D := D) (ci := 8) (v := .ref (mA 30)) (C := RX8) (T := TX8) (N := 44) hx hb hts inX8 hown hK hP 0 rfl rfl 30 (by decide) fl60 (fun _ h9 => h9) rfl dX8_works_11 ?_
        refine lv_iload_n hx hb dX8_works_14 rfl (lv_at hl 2 rfl) ?_
        refine lv_iload_n hx hb dX8_works_15 rfl (lv_at hl 1 rfl) ?_
        refine lv_if_eq (tgt := 27) hx hb dX8_works_16 (by decide) (fun c_16 => ?_) (fun c_16 => ?_)
        · skip
          refine lv_aload_n hx hb dX8_works_27 rfl (lv_at hl 0 rfl) ?_
          refine va_get (D := D) (ci := 8) (v := .ref (mA 14)) (C := RX8) (T := TX8) (N := 44) hx hb hts inX8 hown hK hP 0 rfl rfl 14 (by decide) fl37 (fun _ h9 => h9) rfl dX8_works_28 ?_
          refine lv_iload_n hx hb dX8_works_31 rfl (lv_at hl 2 rfl) ?_
          refine m_iald (k := k) hx hb hK hP 3 0 rfl rfl (by omega) (by decide) dX8_works_32 ?_
          refine m_iast (k := k) (x := (fLF k)) hx hb hK hP hD hS 5 0 rfl rfl (by omega) (by decide) dX8_works_33 (fun H locs hP hD hS => ?_)
          have hP : va_P D vwCl [mo aM mA (nI nt) th td (nI nm) (nI np) isd ln rf rp sz nx kd wh pl rd rn ic mcm mcp mcr, ar cI (mA 19) 20 fRU, ar cI (mA 15) 40 fDY, ar cI (mA 14) 40 fLF, ar cI (mA 13) 40 fRK, ar cI (mA 30) 40 (upd OW1 k (fLF k)), ar cI (mA 31) 40 RS1, ar cI (mA 32) 40 PD1, ar cI (mA 33) 40 fWS, ar cI (mA 34) 10 fFA, ar cI (mA 5) 10 fPU, ar cI (mA 8) 40 fCR, ar cI (mA 7) 40 fDB] H := hP
          have hD : va_D A [mo aM mA (nI nt) th td (nI nm) (nI np) isd ln rf rp sz nx kd wh pl rd rn ic mcm mcp mcr, ar cI (mA 19) 20 fRU, ar cI (mA 15) 40 fDY, ar cI (mA 14) 40 fLF, ar cI (mA 13) 40 fRK, ar cI (mA 30) 40 (upd OW1 k (fLF k)), ar cI (mA 31) 40 RS1, ar cI (mA 32) 40 PD1, ar cI (mA 33) 40 fWS, ar cI (mA 34) 10 fFA, ar cI (mA 5) 10 fPU, ar cI (mA 8) 40 fCR, ar cI (mA 7) 40 fDB] := hD
          refine lv_aload_n hx hb dX8_works_34 rfl (lv_at hl 0 rfl) ?_
          refine va_get (D := D) (ci := 8) (v := .ref (mA 31)) (C := RX8) (T := TX8) (N := 44) hx hb hts inX8 hown hK hP 0 rfl rfl 31 (by decide) fl63 (fun _ h9 => h9) rfl dX8_works_35 ?_
          refine lv_iload_n hx hb dX8_works_38 rfl (lv_at hl 2 rfl) ?_
          refine lv_iload_n hx hb dX8_works_39 rfl (lv_at hl 1 rfl) ?_
          refine lv_if_eq (tgt := 51) hx hb dX8_works_40 (by decide) (fun c_40 => ?_) (fun c_40 => ?_)
          · skip
            refine lv_aload_n hx hb dX8_works_51 rfl (lv_at hl 0 rfl) ?_
            refine va_get (D := D) (ci := 8) (v := .ref (mA 13)) (C := RX8) (T := TX8) (N := 44) hx hb hts inX8 hown hK hP 0 rfl rfl 13 (by decide) fl34 (fun _ h9 => h9) rfl dX8_works_52 ?_
            refine lv_iload_n hx hb dX8_works_55 rfl (lv_at hl 2 rfl) ?_
            refine m_iald (k := k) hx hb hK hP 4 0 rfl rfl (by omega) (by decide) dX8_works_56 ?_
            refine m_iast (k := k) (x := (fRK k)) hx hb hK hP hD hS 6 0 rfl rfl (by omega) (by decide) dX8_works_57 (fun H locs hP hD hS => ?_)
            have hP : va_P D vwCl [mo aM mA (nI nt) th td (nI nm) (nI np) isd ln rf rp sz nx kd wh pl rd rn ic mcm mcp mcr, ar cI (mA 19) 20 fRU, ar cI (mA 15) 40 fDY, ar cI (mA 14) 40 fLF, ar cI (mA 13) 40 fRK, ar cI (mA 30) 40 (upd OW1 k (fLF k)), ar cI (mA 31) 40 (upd RS1 k (fRK k)), ar cI (mA 32) 40 PD1, ar cI (mA 33) 40 fWS, ar cI (mA 34) 10 fFA, ar cI (mA 5) 10 fPU, ar cI (mA 8) 40 fCR, ar cI (mA 7) 40 fDB] H := hP
            have hD : va_D A [mo aM mA (nI nt) th td (nI nm) (nI np) isd ln rf rp sz nx kd wh pl rd rn ic mcm mcp mcr, ar cI (mA 19) 20 fRU, ar cI (mA 15) 40 fDY, ar cI (mA 14) 40 fLF, ar cI (mA 13) 40 fRK, ar cI (mA 30) 40 (upd OW1 k (fLF k)), ar cI (mA 31) 40 (upd RS1 k (fRK k)), ar cI (mA 32) 40 PD1, ar cI (mA 33) 40 fWS, ar cI (mA 34) 10 fFA, ar cI (mA 5) 10 fPU, ar cI (mA 8) 40 fCR, ar cI (mA 7) 40 fDB] := hD
            refine lv_aload_n hx hb dX8_works_58 rfl (lv_at hl 0 rfl) ?_
            refine va_get (D := D) (ci := 8) (v := .ref (mA 32)) (C := RX8) (T := TX8) (N := 44) hx hb hts inX8 hown hK hP 0 rfl rfl 32 (by decide) fl66 (fun _ h9 => h9) rfl dX8_works_59 ?_
            refine lv_iload_n hx hb dX8_works_62 rfl (lv_at hl 2 rfl) ?_
            refine lv_aload_n hx hb dX8_works_63 rfl (lv_at hl 0 rfl) ?_
            refine va_get (D := D) (ci := 8) (v := .ref (mA 30)) (C := RX8) (T := TX8) (N := 44) hx hb hts inX8 hown hK hP 0 rfl rfl 30 (by decide) fl60 (fun _ h9 => h9) rfl dX8_works_64 ?_
            refine lv_iload_n hx hb dX8_works_67 rfl (lv_at hl 2 rfl) ?_
            refine m_iald (k := k) hx hb hK hP 5 0 rfl rfl (by omega) (by decide) dX8_works_68 ?_
            refine m_iast (k := k) (x := ((upd OW1 k (fLF k)) k)) hx hb hK hP hD hS 7 0 rfl rfl (by omega) (by decide) dX8_works_69 (fun H locs hP hD hS => ?_)
            have hP : va_P D vwCl [mo aM mA (nI nt) th td (nI nm) (nI np) isd ln rf rp sz nx kd wh pl rd rn ic mcm mcp mcr, ar cI (mA 19) 20 fRU, ar cI (mA 15) 40 fDY, ar cI (mA 14) 40 fLF, ar cI (mA 13) 40 fRK, ar cI (mA 30) 40 (upd OW1 k (fLF k)), ar cI (mA 31) 40 (upd RS1 k (fRK k)), ar cI (mA 32) 40 (upd PD1 k ((upd OW1 k (fLF k)) k)), ar cI (mA 33) 40 fWS, ar cI (mA 34) 10 fFA, ar cI (mA 5) 10 fPU, ar cI (mA 8) 40 fCR, ar cI (mA 7) 40 fDB] H := hP
            have hD : va_D A [mo aM mA (nI nt) th td (nI nm) (nI np) isd ln rf rp sz nx kd wh pl rd rn ic mcm mcp mcr, ar cI (mA 19) 20 fRU, ar cI (mA 15) 40 fDY, ar cI (mA 14) 40 fLF, ar cI (mA 13) 40 fRK, ar cI (mA 30) 40 (upd OW1 k (fLF k)), ar cI (mA 31) 40 (upd RS1 k (fRK k)), ar cI (mA 32) 40 (upd PD1 k ((upd OW1 k (fLF k)) k)), ar cI (mA 33) 40 fWS, ar cI (mA 34) 10 fFA, ar cI (mA 5) 10 fPU, ar cI (mA 8) 40 fCR, ar cI (mA 7) 40 fDB] := hD
            refine lv_iinc (v := (nI (k + 1))) (lv' := [(2, .int (nI (k + 1))), (0, .ref aM), (1, .int x)]) hx hb dX8_works_70 hl (k := 2) rfl (nI_inc k 1 (by decide)) (by decide) rfl (fun ls hl => ?_)
            refine lv_goto (tgt := 2) hx hb dX8_works_73 (by decide) ?_
            exact ih_2 (k + 1) (upd OW1 k (fLF k)) (upd RS1 k (fRK k)) (upd PD1 k ((upd OW1 k (fLF k)) k)) (by omega) (by omega) (fil_step e1 (by first | (rw [if_pos c_16]) | (rw [if_neg c_16]; exact hq_21))) (fil_step e2 (by first | (rw [if_pos c_40]) | (rw [if_neg c_40]; exact hq_45))) (fil_step e3 (by rw [pk_us]; first | (rw [if_pos c_16]) | (rw [if_neg c_16]; exact hq_21))) _ _ (hP) (hD) hS ls (lv_sub hl [1, 2, 0] rfl)
          · skip
            refine lv_aload_n hx hb dX8_works_43 rfl (lv_at hl 0 rfl) ?_
            refine lv_iload_n hx hb dX8_works_44 rfl (lv_at hl 2 rfl) ?_
            refine m_cVi (As := [.int (nI k)]) (rest := [.int (nI k), .ref (mA 31)]) (wr := [ar cI (mA 14) 40 fLF, ar cI (mA 30) 40 (upd OW1 k (fLF k)), ar cI (mA 31) 40 RS1, ar cI (mA 32) 40 PD1, ar cI (mA 33) 40 fWS, ar cI (mA 34) 10 fFA, ar cI (mA 5) 10 fPU, ar cI (mA 8) 40 fCR, ar cI (mA 7) 40 fDB]) ⟨hx, hb, hml, hown, hts⟩ (c_X8_rankBy l D cI cZ aM mA nt th td nm np isd ln rf rp sz nx kd wh pl rd rn ic mcm mcp mcr fRU fDY fRK k (by omega) (hrk k (by omega))) (cwV 1 hts gX8_works_X8_rankBy rfl rfl rfl (by decide +kernel) ⟨Nat.le_of_ble_eq_true rfl, Nat.le_of_ble_eq_true rfl⟩) hN hK hP hD hS hA [0, 1, 2, 4] [3, 5, 6, 7, 8, 9, 10, 11, 12] rfl rfl (by decide) (by decide) (by decide) 0 (ci := 8) rfl rfl rfl rfl hl.1 rfl (Nat.le_of_ble_eq_true rfl) dX8_works_45 ⟨Nat.le_of_ble_eq_true rfl, Nat.le_of_ble_eq_true rfl⟩ (fun r_45 u_45 H locs hq_45 hP hD hS => ?_)
            replace hq_45 : r_45 = mRank fRU (fRK k) (fDY k) := hq_45
            have hP : va_P D vwCl [ar cI (mA 14) 40 fLF, ar cI (mA 30) 40 (upd OW1 k (fLF k)), ar cI (mA 31) 40 RS1, ar cI (mA 32) 40 PD1, ar cI (mA 33) 40 fWS, ar cI (mA 34) 10 fFA, ar cI (mA 5) 10 fPU, ar cI (mA 8) 40 fCR, ar cI (mA 7) 40 fDB, mo aM mA (nI nt) th td (nI nm) (nI np) isd ln rf rp sz nx kd wh pl rd rn ic mcm mcp mcr, ar cI (mA 19) 20 fRU, ar cI (mA 15) 40 fDY, ar cI (mA 13) 40 fRK] H := hP
            have hD : va_D A [ar cI (mA 14) 40 fLF, ar cI (mA 30) 40 (upd OW1 k (fLF k)), ar cI (mA 31) 40 RS1, ar cI (mA 32) 40 PD1, ar cI (mA 33) 40 fWS, ar cI (mA 34) 10 fFA, ar cI (mA 5) 10 fPU, ar cI (mA 8) 40 fCR, ar cI (mA 7) 40 fDB, mo aM mA (nI nt) th td (nI nm) (nI np) isd ln rf rp sz nx kd wh pl rd rn ic mcm mcp mcr, ar cI (mA 19) 20 fRU, ar cI (mA 15) 40 fDY, ar cI (mA 13) 40 fRK] := hD
            refine lv_goto (tgt := 57) hx hb dX8_works_48 (by decide) ?_
            refine m_iast (k := k) (x := r_45) hx hb hK hP hD hS 2 0 rfl rfl (by omega) (by decide) dX8_works_57 (fun H locs hP hD hS => ?_)
            have hP : va_P D vwCl [ar cI (mA 14) 40 fLF, ar cI (mA 30) 40 (upd OW1 k (fLF k)), ar cI (mA 31) 40 (upd RS1 k r_45), ar cI (mA 32) 40 PD1, ar cI (mA 33) 40 fWS, ar cI (mA 34) 10 fFA, ar cI (mA 5) 10 fPU, ar cI (mA 8) 40 fCR, ar cI (mA 7) 40 fDB, mo aM mA (nI nt) th td (nI nm) (nI np) isd ln rf rp sz nx kd wh pl rd rn ic mcm mcp mcr, ar cI (mA 19) 20 fRU, ar cI (mA 15) 40 fDY, ar cI (mA 13) 40 fRK] H := hP
            have hD : va_D A [ar cI (mA 14) 40 fLF, ar cI (mA 30) 40 (upd OW1 k (fLF k)), ar cI (mA 31) 40 (upd RS1 k r_45), ar cI (mA 32) 40 PD1, ar cI (mA 33) 40 fWS, ar cI (mA 34) 10 fFA, ar cI (mA 5) 10 fPU, ar cI (mA 8) 40 fCR, ar cI (mA 7) 40 fDB, mo aM mA (nI nt) th td (nI nm) (nI np) isd ln rf rp sz nx kd wh pl rd rn ic mcm mcp mcr, ar cI (mA 19) 20 fRU, ar cI (mA 15) 40 fDY, ar cI (mA 13) 40 fRK] := hD
            refine lv_aload_n hx hb dX8_works_58 rfl (lv_at hl 0 rfl) ?_
            refine va_get (D := D) (ci := 8) (v := .ref (mA 32)) (C := RX8) (T := TX8) (N := 44) hx hb hts inX8 hown hK hP 9 rfl rfl 32 (by decide) fl66 (fun _ h9 => h9) rfl dX8_works_59 ?_
            refine lv_iload_n hx hb dX8_works_62 rfl (lv_at hl 2 rfl) ?_
            refine lv_aload_n hx hb dX8_works_63 rfl (lv_at hl 0 rfl) ?_
            refine va_get (D := D) (ci := 8) (v := .ref (mA 30)) (C := RX8) (T := TX8) (N := 44) hx hb hts inX8 hown hK hP 9 rfl rfl 30 (by decide) fl60 (fun _ h9 => h9) rfl dX8_works_64 ?_
            refine lv_iload_n hx hb dX8_works_67 rfl (lv_at hl 2 rfl) ?_
            refine m_iald (k := k) hx hb hK hP 1 0 rfl rfl (by omega) (by decide) dX8_works_68 ?_
            refine m_iast (k := k) (x := ((upd OW1 k (fLF k)) k)) hx hb hK hP hD hS 3 0 rfl rfl (by omega) (by decide) dX8_works_69 (fun H locs hP hD hS => ?_)
            have hP : va_P D vwCl [ar cI (mA 14) 40 fLF, ar cI (mA 30) 40 (upd OW1 k (fLF k)), ar cI (mA 31) 40 (upd RS1 k r_45), ar cI (mA 32) 40 (upd PD1 k ((upd OW1 k (fLF k)) k)), ar cI (mA 33) 40 fWS, ar cI (mA 34) 10 fFA, ar cI (mA 5) 10 fPU, ar cI (mA 8) 40 fCR, ar cI (mA 7) 40 fDB, mo aM mA (nI nt) th td (nI nm) (nI np) isd ln rf rp sz nx kd wh pl rd rn ic mcm mcp mcr, ar cI (mA 19) 20 fRU, ar cI (mA 15) 40 fDY, ar cI (mA 13) 40 fRK] H := hP
            have hD : va_D A [ar cI (mA 14) 40 fLF, ar cI (mA 30) 40 (upd OW1 k (fLF k)), ar cI (mA 31) 40 (upd RS1 k r_45), ar cI (mA 32) 40 (upd PD1 k ((upd OW1 k (fLF k)) k)), ar cI (mA 33) 40 fWS, ar cI (mA 34) 10 fFA, ar cI (mA 5) 10 fPU, ar cI (mA 8) 40 fCR, ar cI (mA 7) 40 fDB, mo aM mA (nI nt) th td (nI nm) (nI np) isd ln rf rp sz nx kd wh pl rd rn ic mcm mcp mcr, ar cI (mA 19) 20 fRU, ar cI (mA 15) 40 fDY, ar cI (mA 13) 40 fRK] := hD
            refine lv_iinc (v := (nI (k + 1))) (lv' := [(2, .int (nI (k + 1))), (0, .ref aM), (1, .int x)]) hx hb dX8_works_70 hl (k := 2) rfl (nI_inc k 1 (by decide)) (by decide) rfl (fun ls hl => ?_)
            refine lv_goto (tgt := 2) hx hb dX8_works_73 (by decide) ?_
            exact ih_2 (k + 1) (upd OW1 k (fLF k)) (upd RS1 k r_45) (upd PD1 k ((upd OW1 k (fLF k)) k)) (by omega) (by omega) (fil_step e1 (by first | (rw [if_pos c_16]) | (rw [if_neg c_16]; exact hq_21))) (fil_step e2 (by first | (rw [if_pos c_40]) | (rw [if_neg c_40]; exact hq_45))) (fil_step e3 (by rw [pk_us]; first | (rw [if_pos c_16]) | (rw [if_neg c_16]; exact hq_21))) _ _ (hP.sub [9, 10, 11, 0, 12, 1, 2, 3, 4, 5, 6, 7, 8] rfl) (hD.sub [9, 10, 11, 0, 12, 1, 2, 3, 4, 5, 6, 7, 8] (by decide) rfl) hS ls (lv_sub hl [1, 2, 0] rfl)
        · skip
          refine lv_aload_n hx hb dX8_works_19 rfl (lv_at hl 0 rfl) ?_
          refine lv_iload_n hx hb dX8_works_20 rfl (lv_at hl 2 rfl) ?_
          refine m_cVi (As := [.int (nI k)]) (rest := [.int (nI k), .ref (mA 30)]) (wr := [ar cI (mA 30) 40 OW1, ar cI (mA 31) 40 RS1, ar cI (mA 32) 40 PD1, ar cI (mA 33) 40 fWS, ar cI (mA 34) 10 fFA, ar cI (mA 5) 10 fPU, ar cI (mA 8) 40 fCR, ar cI (mA 7) 40 fDB]) ⟨hx, hb, hml, hown, hts⟩ (c_X8_leftBy l D cI cZ aM mA nt th td nm np isd ln rf rp sz nx kd wh pl rd rn ic mcm mcp mcr fRU fDY fLF fRK k (by omega) (hrk k (by omega))) (cwV 1 hts gX8_works_X8_leftBy rfl rfl rfl (by decide +kernel) ⟨Nat.le_of_ble_eq_true rfl, Nat.le_of_ble_eq_true rfl⟩) hN hK hP hD hS hA [0, 1, 2, 3, 4] [5, 6, 7, 8, 9, 10, 11, 12] rfl rfl (by decide) (by decide) (by decide) 0 (ci := 8) rfl rfl rfl rfl hl.1 rfl (Nat.le_of_ble_eq_true rfl) dX8_works_21 ⟨Nat.le_of_ble_eq_true rfl, Nat.le_of_ble_eq_true rfl⟩ (fun r_21 u_21 H locs hq_21 hP hD hS => ?_)
          replace hq_21 : r_21 = mLeft fRU (fLF k) (fRK k) (fDY k) := hq_21
          have hP : va_P D vwCl [ar cI (mA 30) 40 OW1, ar cI (mA 31) 40 RS1, ar cI (mA 32) 40 PD1, ar cI (mA 33) 40 fWS, ar cI (mA 34) 10 fFA, ar cI (mA 5) 10 fPU, ar cI (mA 8) 40 fCR, ar cI (mA 7) 40 fDB, mo aM mA (nI nt) th td (nI nm) (nI np) isd ln rf rp sz nx kd wh pl rd rn ic mcm mcp mcr, ar cI (mA 19) 20 fRU, ar cI (mA 15) 40 fDY, ar cI (mA 14) 40 fLF, ar cI (mA 13) 40 fRK] H := hP
          have hD : va_D A [ar cI (mA 30) 40 OW1, ar cI (mA 31) 40 RS1, ar cI (mA 32) 40 PD1, ar cI (mA 33) 40 fWS, ar cI (mA 34) 10 fFA, ar cI (mA 5) 10 fPU, ar cI (mA 8) 40 fCR, ar cI (mA 7) 40 fDB, mo aM mA (nI nt) th td (nI nm) (nI np) isd ln rf rp sz nx kd wh pl rd rn ic mcm mcp mcr, ar cI (mA 19) 20 fRU, ar cI (mA 15) 40 fDY, ar cI (mA 14) 40 fLF, ar cI (mA 13) 40 fRK] := hD
          refine lv_goto (tgt := 33) hx hb dX8_works_24 (by decide) ?_
          refine m_iast (k := k) (x := r_21) hx hb hK hP hD hS 0 0 rfl rfl (by omega) (by decide) dX8_works_33 (fun H locs hP hD hS => ?_)
          have hP : va_P D vwCl [ar cI (mA 30) 40 (upd OW1 k r_21), ar cI (mA 31) 40 RS1, ar cI (mA 32) 40 PD1, ar cI (mA 33) 40 fWS, ar cI (mA 34) 10 fFA, ar cI (mA 5) 10 fPU, ar cI (mA 8) 40 fCR, ar cI (mA 7) 40 fDB, mo aM mA (nI nt) th td (nI nm) (nI np) isd ln rf rp sz nx kd wh pl rd rn ic mcm mcp mcr, ar cI (mA 19) 20 fRU, ar cI (mA 15) 40 fDY, ar cI (mA 14) 40 fLF, ar cI (mA 13) 40 fRK] H := hP
          have hD : va_D A [ar cI (mA 30) 40 (upd OW1 k r_21), ar cI (mA 31) 40 RS1, ar cI (mA 32) 40 PD1, ar cI (mA 33) 40 fWS, ar cI (mA 34) 10 fFA, ar cI (mA 5) 10 fPU, ar cI (mA 8) 40 fCR, ar cI (mA 7) 40 fDB, mo aM mA (nI nt) th td (nI nm) (nI np) isd ln rf rp sz nx kd wh pl rd rn ic mcm mcp mcr, ar cI (mA 19) 20 fRU, ar cI (mA 15) 40 fDY, ar cI (mA 14) 40 fLF, ar cI (mA 13) 40 fRK] := hD
          refine lv_aload_n hx hb dX8_works_34 rfl (lv_at hl 0 rfl) ?_
          refine va_get (D := D) (ci := 8) (v := .ref (mA 31)) (C := RX8) (T := TX8) (N := 44) hx hb hts inX8 hown hK hP 8 rfl rfl 31 (by decide) fl63 (fun _ h9 => h9) rfl dX8_works_35 ?_
          refine lv_iload_n hx hb dX8_works_38 rfl (lv_at hl 2 rfl) ?_
          refine lv_iload_n hx hb dX8_works_39 rfl (lv_at hl 1 rfl) ?_
          refine lv_if_eq (tgt := 51) hx hb dX8_works_40 (by decide) (fun c_40 => ?_) (fun c_40 => ?_)
          · skip
            refine lv_aload_n hx hb dX8_works_51 rfl (lv_at hl 0 rfl) ?_
            refine va_get (D := D) (ci := 8) (v := .ref (mA 13)) (C := RX8) (T := TX8) (N := 44) hx hb hts inX8 hown hK hP 8 rfl rfl 13 (by decide) fl34 (fun _ h9 => h9) rfl dX8_works_52 ?_
            refine lv_iload_n hx hb dX8_works_55 rfl (lv_at hl 2 rfl) ?_
            refine m_iald (k := k) hx hb hK hP 12 0 rfl rfl (by omega) (by decide) dX8_works_56 ?_
            refine m_iast (k := k) (x := (fRK k)) hx hb hK hP hD hS 1 0 rfl rfl (by omega) (by decide) dX8_works_57 (fun H locs hP hD hS => ?_)
            have hP : va_P D vwCl [ar cI (mA 30) 40 (upd OW1 k r_21), ar cI (mA 31) 40 (upd RS1 k (fRK k)), ar cI (mA 32) 40 PD1, ar cI (mA 33) 40 fWS, ar cI (mA 34) 10 fFA, ar cI (mA 5) 10 fPU, ar cI (mA 8) 40 fCR, ar cI (mA 7) 40 fDB, mo aM mA (nI nt) th td (nI nm) (nI np) isd ln rf rp sz nx kd wh pl rd rn ic mcm mcp mcr, ar cI (mA 19) 20 fRU, ar cI (mA 15) 40 fDY, ar cI (mA 14) 40 fLF, ar cI (mA 13) 40 fRK] H := hP
            have hD : va_D A [ar cI (mA 30) 40 (upd OW1 k r_21), ar cI (mA 31) 40 (upd RS1 k (fRK k)), ar cI (mA 32) 40 PD1, ar cI (mA 33) 40 fWS, ar cI (mA 34) 10 fFA, ar cI (mA 5) 10 fPU, ar cI (mA 8) 40 fCR, ar cI (mA 7) 40 fDB, mo aM mA (nI nt) th td (nI nm) (nI np) isd ln rf rp sz nx kd wh pl rd rn ic mcm mcp mcr, ar cI (mA 19) 20 fRU, ar cI (mA 15) 40 fDY, ar cI (mA 14) 40 fLF, ar cI (mA 13) 40 fRK] := hD
            refine lv_aload_n hx hb dX8_works_58 rfl (lv_at hl 0 rfl) ?_
            refine va_get (D := D) (ci := 8) (v := .ref (mA 32)) (C := RX8) (T := TX8) (N := 44) hx hb hts inX8 hown hK hP 8 rfl rfl 32 (by decide) fl66 (fun _ h9 => h9) rfl dX8_works_59 ?_
            refine lv_iload_n hx hb dX8_works_62 rfl (lv_at hl 2 rfl) ?_
            refine lv_aload_n hx hb dX8_works_63 rfl (lv_at hl 0 rfl) ?_
            refine va_get (D := D) (ci := 8) (v := .ref (mA 30)) (C := RX8) (T := TX8) (N := 44) hx hb hts inX8 hown hK hP 8 rfl rfl 30 (by decide) fl60 (fun _ h9 => h9) rfl dX8_works_64 ?_
            refine lv_iload_n hx hb dX8_works_67 rfl (lv_at hl 2 rfl) ?_
            refine m_iald (k := k) hx hb hK hP 0 0 rfl rfl (by omega) (by decide) dX8_works_68 ?_
            refine m_iast (k := k) (x := ((upd OW1 k r_21) k)) hx hb hK hP hD hS 2 0 rfl rfl (by omega) (by decide) dX8_works_69 (fun H locs hP hD hS => ?_)
            have hP : va_P D vwCl [ar cI (mA 30) 40 (upd OW1 k r_21), ar cI (mA 31) 40 (upd RS1 k (fRK k)), ar cI (mA 32) 40 (upd PD1 k ((upd OW1 k r_21) k)), ar cI (mA 33) 40 fWS, ar cI (mA 34) 10 fFA, ar cI (mA 5) 10 fPU, ar cI (mA 8) 40 fCR, ar cI (mA 7) 40 fDB, mo aM mA (nI nt) th td (nI nm) (nI np) isd ln rf rp sz nx kd wh pl rd rn ic mcm mcp mcr, ar cI (mA 19) 20 fRU, ar cI (mA 15) 40 fDY, ar cI (mA 14) 40 fLF, ar cI (mA 13) 40 fRK] H := hP
            have hD : va_D A [ar cI (mA 30) 40 (upd OW1 k r_21), ar cI (mA 31) 40 (upd RS1 k (fRK k)), ar cI (mA 32) 40 (upd PD1 k ((upd OW1 k r_21) k)), ar cI (mA 33) 40 fWS, ar cI (mA 34) 10 fFA, ar cI (mA 5) 10 fPU, ar cI (mA 8) 40 fCR, ar cI (mA 7) 40 fDB, mo aM mA (nI nt) th td (nI nm) (nI np) isd ln rf rp sz nx kd wh pl rd rn ic mcm mcp mcr, ar cI (mA 19) 20 fRU, ar cI (mA 15) 40 fDY, ar cI (mA 14) 40 fLF, ar cI (mA 13) 40 fRK] := hD
            refine lv_iinc (v := (nI (k + 1))) (lv' := [(2, .int (nI (k + 1))), (0, .ref aM), (1, .int x)]) hx hb dX8_works_70 hl (k := 2) rfl (nI_inc k 1 (by decide)) (by decide) rfl (fun ls hl => ?_)
            refine lv_goto (tgt := 2) hx hb dX8_works_73 (by decide) ?_
            exact ih_2 (k + 1) (upd OW1 k r_21) (upd RS1 k (fRK k)) (upd PD1 k ((upd OW1 k r_21) k)) (by omega) (by omega) (fil_step e1 (by first | (rw [if_pos c_16]) | (rw [if_neg c_16]; exact hq_21))) (fil_step e2 (by first | (rw [if_pos c_40]) | (rw [if_neg c_40]; exact hq_45))) (fil_step e3 (by rw [pk_us]; first | (rw [if_pos c_16]) | (rw [if_neg c_16]; exact hq_21))) _ _ (hP.sub [8, 9, 10, 11, 12, 0, 1, 2, 3, 4, 5, 6, 7] rfl) (hD.sub [8, 9, 10, 11, 12, 0, 1, 2, 3, 4, 5, 6, 7] (by decide) rfl) hS ls (lv_sub hl [1, 2, 0] rfl)
          · skip
            refine lv_aload_n hx hb dX8_works_43 rfl (lv_at hl 0 rfl) ?_
            refine lv_iload_n hx hb dX8_works_44 rfl (lv_at hl 2 rfl) ?_
            refine m_cVi (As := [.int (nI k)]) (rest := [.int (nI k), .ref (mA 31)]) (wr := [ar cI (mA 30) 40 (upd OW1 k r_21), ar cI (mA 31) 40 RS1, ar cI (mA 32) 40 PD1, ar cI (mA 33) 40 fWS, ar cI (mA 34) 10 fFA, ar cI (mA 5) 10 fPU, ar cI (mA 8) 40 fCR, ar cI (mA 7) 40 fDB, ar cI (mA 14) 40 fLF]) ⟨hx, hb, hml, hown, hts⟩ (c_X8_rankBy l D cI cZ aM mA nt th td nm np isd ln rf rp sz nx kd wh pl rd rn ic mcm mcp mcr fRU fDY fRK k (by omega) (hrk k (by omega))) (cwV 1 hts gX8_works_X8_rankBy rfl rfl rfl (by decide +kernel) ⟨Nat.le_of_ble_eq_true rfl, Nat.le_of_ble_eq_true rfl⟩) hN hK hP hD hS hA [8, 9, 10, 12] [0, 1, 2, 3, 4, 5, 6, 7, 11] rfl rfl (by decide) (by decide) (by decide) 0 (ci := 8) rfl rfl rfl rfl hl.1 rfl (Nat.le_of_ble_eq_true rfl) dX8_works_45 ⟨Nat.le_of_ble_eq_true rfl, Nat.le_of_ble_eq_true rfl⟩ (fun r_45 u_45 H locs hq_45 hP hD hS => ?_)
            replace hq_45 : r_45 = mRank fRU (fRK k) (fDY k) := hq_45
            have hP : va_P D vwCl [ar cI (mA 30) 40 (upd OW1 k r_21), ar cI (mA 31) 40 RS1, ar cI (mA 32) 40 PD1, ar cI (mA 33) 40 fWS, ar cI (mA 34) 10 fFA, ar cI (mA 5) 10 fPU, ar cI (mA 8) 40 fCR, ar cI (mA 7) 40 fDB, ar cI (mA 14) 40 fLF, mo aM mA (nI nt) th td (nI nm) (nI np) isd ln rf rp sz nx kd wh pl rd rn ic mcm mcp mcr, ar cI (mA 19) 20 fRU, ar cI (mA 15) 40 fDY, ar cI (mA 13) 40 fRK] H := hP
            have hD : va_D A [ar cI (mA 30) 40 (upd OW1 k r_21), ar cI (mA 31) 40 RS1, ar cI (mA 32) 40 PD1, ar cI (mA 33) 40 fWS, ar cI (mA 34) 10 fFA, ar cI (mA 5) 10 fPU, ar cI (mA 8) 40 fCR, ar cI (mA 7) 40 fDB, ar cI (mA 14) 40 fLF, mo aM mA (nI nt) th td (nI nm) (nI np) isd ln rf rp sz nx kd wh pl rd rn ic mcm mcp mcr, ar cI (mA 19) 20 fRU, ar cI (mA 15) 40 fDY, ar cI (mA 13) 40 fRK] := hD
            refine lv_goto (tgt := 57) hx hb dX8_works_48 (by decide) ?_
            refine m_iast (k := k) (x := r_45) hx hb hK hP hD hS 1 0 rfl rfl (by omega) (by decide) dX8_works_57 (fun H locs hP hD hS => ?_)
            have hP : va_P D vwCl [ar cI (mA 30) 40 (upd OW1 k r_21), ar cI (mA 31) 40 (upd RS1 k r_45), ar cI (mA 32) 40 PD1, ar cI (mA 33) 40 fWS, ar cI (mA 34) 10 fFA, ar cI (mA 5) 10 fPU, ar cI (mA 8) 40 fCR, ar cI (mA 7) 40 fDB, ar cI (mA 14) 40 fLF, mo aM mA (nI nt) th td (nI nm) (nI np) isd ln rf rp sz nx kd wh pl rd rn ic mcm mcp mcr, ar cI (mA 19) 20 fRU, ar cI (mA 15) 40 fDY, ar cI (mA 13) 40 fRK] H := hP
            have hD : va_D A [ar cI (mA 30) 40 (upd OW1 k r_21), ar cI (mA 31) 40 (upd RS1 k r_45), ar cI (mA 32) 40 PD1, ar cI (mA 33) 40 fWS, ar cI (mA 34) 10 fFA, ar cI (mA 5) 10 fPU, ar cI (mA 8) 40 fCR, ar cI (mA 7) 40 fDB, ar cI (mA 14) 40 fLF, mo aM mA (nI nt) th td (nI nm) (nI np) isd ln rf rp sz nx kd wh pl rd rn ic mcm mcp mcr, ar cI (mA 19) 20 fRU, ar cI (mA 15) 40 fDY, ar cI (mA 13) 40 fRK] := hD
            refine lv_aload_n hx hb dX8_works_58 rfl (lv_at hl 0 rfl) ?_
            refine va_get (D := D) (ci := 8) (v := .ref (mA 32)) (C := RX8) (T := TX8) (N := 44) hx hb hts inX8 hown hK hP 9 rfl rfl 32 (by decide) fl66 (fun _ h9 => h9) rfl dX8_works_59 ?_
            refine lv_iload_n hx hb dX8_works_62 rfl (lv_at hl 2 rfl) ?_
            refine lv_aload_n hx hb dX8_works_63 rfl (lv_at hl 0 rfl) ?_
            refine va_get (D := D) (ci := 8) (v := .ref (mA 30)) (C := RX8) (T := TX8) (N := 44) hx hb hts inX8 hown hK hP 9 rfl rfl 30 (by decide) fl60 (fun _ h9 => h9) rfl dX8_works_64 ?_
            refine lv_iload_n hx hb dX8_works_67 rfl (lv_at hl 2 rfl) ?_
            refine m_iald (k := k) hx hb hK hP 0 0 rfl rfl (by omega) (by decide) dX8_works_68 ?_
            refine m_iast (k := k) (x := ((upd OW1 k r_21) k)) hx hb hK hP hD hS 2 0 rfl rfl (by omega) (by decide) dX8_works_69 (fun H locs hP hD hS => ?_)
            have hP : va_P D vwCl [ar cI (mA 30) 40 (upd OW1 k r_21), ar cI (mA 31) 40 (upd RS1 k r_45), ar cI (mA 32) 40 (upd PD1 k ((upd OW1 k r_21) k)), ar cI (mA 33) 40 fWS, ar cI (mA 34) 10 fFA, ar cI (mA 5) 10 fPU, ar cI (mA 8) 40 fCR, ar cI (mA 7) 40 fDB, ar cI (mA 14) 40 fLF, mo aM mA (nI nt) th td (nI nm) (nI np) isd ln rf rp sz nx kd wh pl rd rn ic mcm mcp mcr, ar cI (mA 19) 20 fRU, ar cI (mA 15) 40 fDY, ar cI (mA 13) 40 fRK] H := hP
            have hD : va_D A [ar cI (mA 30) 40 (upd OW1 k r_21), ar cI (mA 31) 40 (upd RS1 k r_45), ar cI (mA 32) 40 (upd PD1 k ((upd OW1 k r_21) k)), ar cI (mA 33) 40 fWS, ar cI (mA 34) 10 fFA, ar cI (mA 5) 10 fPU, ar cI (mA 8) 40 fCR, ar cI (mA 7) 40 fDB, ar cI (mA 14) 40 fLF, mo aM mA (nI nt) th td (nI nm) (nI np) isd ln rf rp sz nx kd wh pl rd rn ic mcm mcp mcr, ar cI (mA 19) 20 fRU, ar cI (mA 15) 40 fDY, ar cI (mA 13) 40 fRK] := hD
            refine lv_iinc (v := (nI (k + 1))) (lv' := [(2, .int (nI (k + 1))), (0, .ref aM), (1, .int x)]) hx hb dX8_works_70 hl (k := 2) rfl (nI_inc k 1 (by decide)) (by decide) rfl (fun ls hl => ?_)
            refine lv_goto (tgt := 2) hx hb dX8_works_73 (by decide) ?_
            exact ih_2 (k + 1) (upd OW1 k r_21) (upd RS1 k r_45) (upd PD1 k ((upd OW1 k r_21) k)) (by omega) (by omega) (fil_step e1 (by first | (rw [if_pos c_16]) | (rw [if_neg c_16]; exact hq_21))) (fil_step e2 (by first | (rw [if_pos c_40]) | (rw [if_neg c_40]; exact hq_45))) (fil_step e3 (by rw [pk_us]; first | (rw [if_pos c_16]) | (rw [if_neg c_16]; exact hq_21))) _ _ (hP.sub [9, 10, 11, 8, 12, 0, 1, 2, 3, 4, 5, 6, 7] rfl) (hD.sub [9, 10, 11, 8, 12, 0, 1, 2, 3, 4, 5, 6, 7] (by decide) rfl) hS ls (lv_sub hl [1, 2, 0] rfl)
  exact L_2 ((np - 0) + 1) 0 fOW fRS fPD (Nat.lt_succ_self _) (by omega) (fil_0.symm) (fil_0.symm) (fil_0.symm) _ _ (hP) (hD) hS ls (lv_sub hl [1, 2, 0] rfl)
