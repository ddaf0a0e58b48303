abbrev r_c_X8_thrown : Room := { frames := 0, cells := 0, slots := 0, locals := 0 }
set_option maxHeartbeats 4000000 in
set_option maxRecDepth 100000 in
theorem c_X8_thrown (l : Launch) (D : va_G) (cI cZ : ClassId) (aM : Nat) (mA : Nat → Nat) (nt : Nat) (th : Int32) (td : Int32) (nm : Nat) (np : Nat) (isd : Int32) (ln : Int32) (rf : Int32) (rp : Int32) (sz : Int32) (nx : Int32) (kd : Int32) (wh : Int32) (pl : Int32) (rd : Int32) (rn : Int32) (ic : Int32) (mcm : Int32) (mcp : Int32) (mcr : Int32)  : MI l yX8_thrown wsX8_thrown r_c_X8_thrown D cI cZ [.ref aM] [mo aM mA (nI nt) th td (nI nm) (nI np) isd ln rf rp sz nx kd wh pl rd rn ic mcm mcp mcr] (fun (r : Int32) (u : Unit) => r = th) (fun (u : Unit) => [mo aM mA (nI nt) th td (nI nm) (nI np) isd ln rf rp sz nx kd wh pl rd rn ic mcm mcp mcr]) 0 0 := by
  refine MI.of (cc := cX8_thrown) (maxL := 1) (by decide) rfl (Nat.le_of_ble_eq_true rfl) ?_
  intro p e s m below meth c A Q hx hb hml hown hts hN hK hA ret hP hD hS ls hl
  have hown : s.vm.findClass RX8 = some m.cls := hown
  have inX8 : ∀ w ∈ wsX80, w ∈ wsX8_thrown := by decide +kernel
  have fl87 := hts (.fieldLink RX8 87 "AdvanceBookModel" "thrown" "I") (by decide +kernel)
  have hP : va_P D vwCl [mo aM mA (nI nt) th td (nI nm) (nI np) isd ln rf rp sz nx kd wh pl rd rn ic mcm mcp mcr] s.heap := hP
  have hD : va_D A [mo aM mA (nI nt) th td (nI nm) (nI np) isd ln rf rp sz nx kd wh pl rd rn ic mcm mcp mcr] := hD
  have hl : lv_has ls 1 [(0, .ref aM)] := hl
  refine lv_aload_n hx hb dX8_thrown_0 rfl (lv_at hl 0 rfl) ?_
  refine va_get (D := D) (ci := 8) (v := .int th) (C := RX8) (T := TX8) (N := 44) hx hb hts inX8 hown hK hP 0 rfl rfl 2 (by decide) fl87 (fun _ h9 => h9) rfl dX8_thrown_1 ?_
  exact ret th () _ _ _ _ dX8_thrown_4 (rfl) (hP) (hD) hS
abbrev r_c_X8_isMan : Room := { frames := 0, cells := 0, slots := 0, locals := 0 }
set_option maxHeartbeats 4000000 in
set_option maxRecDepth 100000 in
theorem c_X8_isMan (l : Launch) (D : va_G) (cI cZ : ClassId) (aM : Nat) (mA : Nat → Nat) (nt : Nat) (th : Int32) (td : Int32) (nm : Nat) (np : Nat) (isd : Int32) (ln : Int32) (rf : Int32) (rp : Int32) (sz : Int32) (nx : Int32) (kd : Int32) (wh : Int32) (pl : Int32) (rd : Int32) (rn : Int32) (ic : Int32) (mcm : Int32) (mcp : Int32) (mcr : Int32) (x : Int32)  : MI l yX8_isMan wsX8_isMan r_c_X8_isMan D cI cZ [.ref aM, .int x] [mo aM mA (nI nt) th td (nI nm) (nI np) isd ln rf rp sz nx kd wh pl rd rn ic mcm mcp mcr] (fun (r : Int32) (u : Unit) => r = if 0 ≤ x ∧ x < nI nm then 1 else 0) (fun (u : Unit) => [mo aM mA (nI nt) th td (nI nm) (nI np) isd ln rf rp sz nx kd wh pl rd rn ic mcm mcp mcr]) 0 0 := by
  refine MI.ofZ (cc := cX8_isMan) (maxL := 2) (by decide) rfl (Nat.le_of_ble_eq_true rfl) ?_
  intro p e s m below meth c A Q hx hb hml hown hts hN hK hA ret hP hD hS ls hl
  have hown : s.vm.findClass RX8 = some m.cls := hown
  have inX8 : ∀ w ∈ wsX80, w ∈ wsX8_isMan := by decide +kernel
  have fl94 := hts (.fieldLink RX8 94 "AdvanceBookModel" "men" "I") (by decide +kernel)
  have hP : va_P D vwCl [mo aM mA (nI nt) th td (nI nm) (nI np) isd ln rf rp sz nx kd wh pl rd rn ic mcm mcp mcr] s.heap := hP
  have hD : va_D A [mo aM mA (nI nt) th td (nI nm) (nI np) isd ln rf rp sz nx kd wh pl rd rn ic mcm mcp mcr] := hD
  have hl : lv_has ls 2 [(0, .ref aM), (1, .int x)] := hl
  refine lv_iload_n hx hb dX8_isMan_0 rfl (lv_at hl 1 rfl) ?_
  refine lv_if_lt (tgt := 16) hx hb dX8_isMan_1 (by decide) (fun c_1 => ?_) (fun c_1 => ?_)
  · skip
    refine lv_iconst (v := 0) hx hb dX8_isMan_16 (by decide) ?_
    exact ret 0 () _ _ _ _ dX8_isMan_17 (Or.inl rfl) (by grind) (hP) (hD) hS
  · skip
    refine lv_iload_n hx hb dX8_isMan_4 rfl (lv_at hl 1 rfl) ?_
    refine lv_aload_n hx hb dX8_isMan_5 rfl (lv_at hl 0 rfl) ?_
    refine va_get (D := D) (ci := 8) (v := .int (nI nm)) (C := RX8) (T := TX8) (N := 44) hx hb hts inX8 hown hK hP 0 rfl rfl 4 (by decide) fl94 (fun _ h9 => h9) rfl dX8_isMan_6 ?_
    refine lv_icmp_ge (tgt := 16) hx hb dX8_isMan_9 (by decide) (fun c_9 => ?_) (fun c_9 => ?_)
    · skip
      refine lv_iconst (v := 0) hx hb dX8_isMan_16 (by decide) ?_
      exact ret 0 () _ _ _ _ dX8_isMan_17 (Or.inl rfl) (by grind) (hP) (hD) hS
    · skip
      refine lv_iconst (v := 1) hx hb dX8_isMan_12 (by decide) ?_
      refine lv_goto (tgt := 17) hx hb dX8_isMan_13 (by decide) ?_
      exact ret 1 () _ _ _ _ dX8_isMan_17 (Or.inr rfl) (by grind) (hP) (hD) hS
abbrev r_c_X8_fails : Room := { frames := 0, cells := 0, slots := 0, locals := 0 }
set_option maxHeartbeats 4000000 in
set_option maxRecDepth 100000 in
theorem c_X8_fails (l : Launch) (D : va_G) (cI cZ : ClassId) (aM : Nat) (mA : Nat → Nat) (nt : Nat) (th : Int32) (td : Int32) (nm : Nat) (np : Nat) (isd : Int32) (ln : Int32) (rf : Int32) (rp : Int32) (sz : Int32) (nx : Int32) (kd : Int32) (wh : Int32) (pl : Int32) (rd : Int32) (rn : Int32) (ic : Int32) (mcm : Int32) (mcp : Int32) (mcr : Int32) (x : Int32)  : MI l yX8_fails wsX8_fails r_c_X8_fails D cI cZ [.ref aM, .int x] [mo aM mA (nI nt) th td (nI nm) (nI np) isd ln rf rp sz nx kd wh pl rd rn ic mcm mcp mcr] (fun (r : Int32) (u : Unit) => r = 0) (fun (u : Unit) => [mo aM mA (nI nt) x td (nI nm) (nI np) isd ln rf rp sz nx kd wh pl rd rn ic mcm mcp mcr]) 0 0 := by
  refine MI.of (cc := cX8_fails) (maxL := 2) (by decide) rfl (Nat.le_of_ble_eq_true rfl) ?_
  intro p e s m below meth c A Q hx hb hml hown hts hN hK hA ret hP hD hS ls hl
  have hown : s.vm.findClass RX8 = some m.cls := hown
  have inX8 : ∀ w ∈ wsX80, w ∈ wsX8_fails := by decide +kernel
  have fl87 := hts (.fieldLink RX8 87 "AdvanceBookModel" "thrown" "I") (by decide +kernel)
  have hP : va_P D vwCl [mo aM mA (nI nt) th td (nI nm) (nI np) isd ln rf rp sz nx kd wh pl rd rn ic mcm mcp mcr] s.heap := hP
  have hD : va_D A [mo aM mA (nI nt) th td (nI nm) (nI np) isd ln rf rp sz nx kd wh pl rd rn ic mcm mcp mcr] := hD
  have hl : lv_has ls 2 [(0, .ref aM), (1, .int x)] := hl
  refine lv_aload_n hx hb dX8_fails_0 rfl (lv_at hl 0 rfl) ?_
  refine lv_iload_n hx hb dX8_fails_1 rfl (lv_at hl 1 rfl) ?_
  refine va_put (D := D) (ci := 8) (v := .int x) (ty := .int) (C := RX8) (T := TX8) (N := 44) hx hb hts inX8 tyX8 tyX8_ok nmX8 hown hK hP hD hS 0 rfl rfl 2 (by decide) fl87 (fun _ h9 => h9) rfl (by decide +kernel) (rfl) (rfl) (Nat.le_of_ble_eq_true rfl) dX8_fails_2 (fun H locs hP hD hS => ?_)
  have hP : va_P D vwCl [mo aM mA (nI nt) x td (nI nm) (nI np) isd ln rf rp sz nx kd wh pl rd rn ic mcm mcp mcr] H := hP
  have hD : va_D A [mo aM mA (nI nt) x td (nI nm) (nI np) isd ln rf rp sz nx kd wh pl rd rn ic mcm mcp mcr] := hD
  refine lv_iconst (v := 0) hx hb dX8_fails_5 (by decide) ?_
  exact ret 0 () _ _ _ _ dX8_fails_6 (rfl) (hP) (hD) hS
abbrev r_c_X8_netOf : Room := { frames := 0, cells := 0, slots := 0, locals := 0 }
set_option maxHeartbeats 4000000 in
set_option maxRecDepth 100000 in
theorem c_X8_netOf (l : Launch) (D : va_G) (cI cZ : ClassId) (aM : Nat) (mA : Nat → Nat) (nt : Nat) (th : Int32) (td : Int32) (nm : Nat) (np : Nat) (isd : Int32) (ln : Int32) (rf : Int32) (rp : Int32) (sz : Int32) (nx : Int32) (kd : Int32) (wh : Int32) (pl : Int32) (rd : Int32) (rn : Int32) (ic : Int32) (mcm : Int32) (mcp : Int32) (mcr : Int32) (fCR : Nat → Int32) (fLF : Nat → Int32) (fDB : Nat → Int32) (x : Int32) (hnp : np ≤ 40) : MI l yX8_netOf wsX8_netOf r_c_X8_netOf D cI cZ [.ref aM, .int x] [mo aM mA (nI nt) th td (nI nm) (nI np) isd ln rf rp sz nx kd wh pl rd rn ic mcm mcp mcr, ar cI (mA 8) 40 fCR, ar cI (mA 14) 40 fLF, ar cI (mA 7) 40 fDB] (fun (r : Int32) (u : Unit) => r = netS fCR fDB fLF x np) (fun (u : Unit) => [mo aM mA (nI nt) th td (nI nm) (nI np) isd ln rf rp sz nx kd wh pl rd rn ic mcm mcp mcr, ar cI (mA 8) 40 fCR, ar cI (mA 14) 40 fLF, ar cI (mA 7) 40 fDB]) 0 0 := by
  refine MI.of (cc := cX8_netOf) (maxL := 4) (by decide) rfl (Nat.le_of_ble_eq_true rfl) ?_
  intro p e s m below meth c A Q hx hb hml hown hts hN hK hA ret hP hD hS ls hl
  have hown : s.vm.findClass RX8 = some m.cls := hown
  have inX8 : ∀ w ∈ wsX80, w ∈ wsX8_netOf := by decide +kernel
  have fl16 := hts (.fieldLink RX8 16 "AdvanceBookModel" "debtor" "[I") (by decide +kernel)
  have fl19 := hts (.fieldLink RX8 19 "AdvanceBookModel" "creditor" "[I") (by decide +kernel)
  have fl37 := hts (.fieldLink RX8 37 "AdvanceBookModel" "left" "[I") (by decide +kernel)
  have fl101 := hts (.fieldLink RX8 101 "AdvanceBookModel" "papers" "I") (by decide +kernel)
  have hP : va_P D vwCl [mo aM mA (nI nt) th td (nI nm) (nI np) isd ln rf rp sz nx kd wh pl rd rn ic mcm mcp mcr, ar cI (mA 8) 40 fCR, ar cI (mA 14) 40 fLF, ar cI (mA 7) 40 fDB] s.heap := hP
  have hD : va_D A [mo aM mA (nI nt) th td (nI nm) (nI np) isd ln rf rp sz nx kd wh pl rd rn ic mcm mcp mcr, ar cI (mA 8) 40 fCR, ar cI (mA 14) 40 fLF, ar cI (mA 7) 40 fDB] := hD
  have hl : lv_has ls 4 [(0, .ref aM), (1, .int x)] := hl
  refine lv_iconst (v := 0) hx hb dX8_netOf_0 (by decide) ?_
  refine lv_istore_n (lv' := [(2, .int 0), (0, .ref aM), (1, .int x)]) hx hb dX8_netOf_1 rfl hl (by decide) rfl (fun ls hl => ?_)
  refine lv_iconst (v := 0) hx hb dX8_netOf_2 (by decide) ?_
  refine lv_istore_n (lv' := [(3, .int 0), (2, .int 0), (0, .ref aM), (1, .int x)]) hx hb dX8_netOf_3 rfl hl (by decide) rfl (fun ls hl => ?_)
  have L_4 : ∀ (n_4 : Nat) (k : Nat) (sm : Int32), (np - k < n_4) → (k ≤ np) → (sm = netS fCR fDB fLF x k) → ∀ (H : Heap) (locs : List Loc), va_P D vwCl [mo aM mA (nI nt) th td (nI nm) (nI np) isd ln rf rp sz nx kd wh pl rd rn ic mcm mcp mcr, ar cI (mA 8) 40 fCR, ar cI (mA 14) 40 fLF, ar cI (mA 7) 40 fDB] H → va_D A [mo aM mA (nI nt) th td (nI nm) (nI np) isd ln rf rp sz nx kd wh pl rd rn ic mcm mcp mcr, ar cI (mA 8) 40 fCR, ar cI (mA 14) 40 fLF, ar cI (mA 7) 40 fDB] → va_S A s.heap H locs → ∀ ls : Array Slot, lv_has ls 4 [(0, .ref aM), (1, .int x), (2, .int sm), (3, .int (nI k))] → W p l e r_c_X8_netOf s m (([.ref aM, .int x] : List Value).toArray) below meth c H locs 0 0 Q (F0 m 4 ls []) := by
    intro n_4
    induction n_4 with
    | zero => intro k sm hfu; exact absurd hfu (Nat.not_lt_zero _)
    | succ n_4 ih_4 =>
      intro k sm hfu_4 hk hs H locs hP hD hS ls hl
      refine lv_iload_n hx hb dX8_netOf_4 rfl (lv_at hl 3 rfl) ?_
      refine lv_aload_n hx hb dX8_netOf_5 rfl (lv_at hl 0 rfl) ?_
      refine va_get (D := D) (ci := 8) (v := .int (nI np)) (C := RX8) (T := TX8) (N := 44) hx hb hts inX8 hown hK hP 0 rfl rfl 6 (by decide) fl101 (fun _ h9 => h9) rfl dX8_netOf_6 ?_
      refine lv_icmp_ge (tgt := 56) hx hb dX8_netOf_9 (by decide) (fun c_9 => ?_) (fun c_9 => ?_)
      · skip
        have k_9 : np ≤ k := (nI_leI (a := np) (b := k) (by omega) (by omega)).mp c_9
        refine lv_iload_n hx hb dX8_netOf_56 rfl (lv_at hl 2 rfl) ?_
        exact ret sm () _ _ _ _ dX8_netOf_57 (by have e : k = np := (by omega); subst e; exact hs) (hP) (hD) hS
      · skip
        have k_9 : ¬ np ≤ k := fun h9 => c_9 ((nI_leI (a := np) (b := k) (by omega) (by omega)).mpr h9)
        refine lv_aload_n hx hb dX8_netOf_12 rfl (lv_at hl 0 rfl) ?_
        refine va_get (D := D) (ci := 8) (v := .ref (mA 8)) (C := RX8) (T := TX8) (N := 44) hx hb hts inX8 hown hK hP 0 rfl rfl 8 (by decide) fl19 (fun _ h9 => h9) rfl dX8_netOf_13 ?_
        refine lv_iload_n hx hb dX8_netOf_16 rfl (lv_at hl 3 rfl) ?_
        refine m_iald (k := k) hx hb hK hP 1 0 rfl rfl (by omega) (by decide) dX8_netOf_17 ?_
        refine lv_iload_n hx hb dX8_netOf_18 rfl (lv_at hl 1 rfl) ?_
        refine lv_icmp_ne (tgt := 31) hx hb dX8_netOf_19 (by decide) (fun c_19 => ?_) (fun c_19 => ?_)
        · skip
          refine lv_aload_n hx hb dX8_netOf_31 rfl (lv_at hl 0 rfl) ?_
          refine va_get (D := D) (ci := 8) (v := .ref (mA 7)) (C := RX8) (T := TX8) (N := 44) hx hb hts inX8 hown hK hP 0 rfl rfl 7 (by decide) fl16 (fun _ h9 => h9) rfl dX8_netOf_32 ?_
          refine lv_iload_n hx hb dX8_netOf_35 rfl (lv_at hl 3 rfl) ?_
          refine m_iald (k := k) hx hb hK hP 3 0 rfl rfl (by omega) (by decide) dX8_netOf_36 ?_
          refine lv_iload_n hx hb dX8_netOf_37 rfl (lv_at hl 1 rfl) ?_
          refine lv_icmp_ne (tgt := 50) hx hb dX8_netOf_38 (by decide) (fun c_38 => ?_) (fun c_38 => ?_)
          · skip
            refine lv_iinc (v := (nI (k + 1))) (lv' := [(3, .int (nI (k + 1))), (0, .ref aM), (1, .int x), (2, .int sm)]) hx hb dX8_netOf_50 hl (k := 3) rfl (nI_inc k 1 (by decide)) (by decide) rfl (fun ls hl => ?_)
            refine lv_goto (tgt := 4) hx hb dX8_netOf_53 (by decide) ?_
            exact ih_4 (k + 1) sm (by omega) (by omega) (by simp only [netS, c_19, c_38, hs, if_true, if_false]) _ _ (hP) (hD) hS ls (lv_sub hl [1, 2, 3, 0] rfl)
          · skip
            refine lv_iload_n hx hb dX8_netOf_41 rfl (lv_at hl 2 rfl) ?_
            refine lv_aload_n hx hb dX8_netOf_42 rfl (lv_at hl 0 rfl) ?_
            refine va_get (D := D) (ci := 8) (v := .ref (mA 14)) (C := RX8) (T := TX8) (N := 44) hx hb hts inX8 hown hK hP 0 rfl rfl 14 (by decide) fl37 (fun _ h9 => h9) rfl dX8_netOf_43 ?_
            refine lv_iload_n hx hb dX8_netOf_46 rfl (lv_at hl 3 rfl) ?_
            refine m_iald (k := k) hx hb hK hP 2 0 rfl rfl (by omega) (by decide) dX8_netOf_47 ?_
            refine lv_isub hx hb dX8_netOf_48 ?_
            refine lv_istore_n (lv' := [(2, .int (sm - (fLF k))), (0, .ref aM), (1, .int x), (3, .int (nI k))]) hx hb dX8_netOf_49 rfl hl (by decide) rfl (fun ls hl => ?_)
            refine lv_iinc (v := (nI (k + 1))) (lv' := [(3, .int (nI (k + 1))), (2, .int (sm - (fLF k))), (0, .ref aM), (1, .int x)]) hx hb dX8_netOf_50 hl (k := 3) rfl (nI_inc k 1 (by decide)) (by decide) rfl (fun ls hl => ?_)
            refine lv_goto (tgt := 4) hx hb dX8_netOf_53 (by decide) ?_
            exact ih_4 (k + 1) (sm - (fLF k)) (by omega) (by omega) (by simp only [netS, c_19, c_38, hs, if_true, if_false]) _ _ (hP) (hD) hS ls (lv_sub hl [2, 3, 1, 0] rfl)
        · skip
          refine lv_iload_n hx hb dX8_netOf_22 rfl (lv_at hl 2 rfl) ?_
          refine lv_aload_n hx hb dX8_netOf_23 rfl (lv_at hl 0 rfl) ?_
          refine va_get (D := D) (ci := 8) (v := .ref (mA 14)) (C := RX8) (T := TX8) (N := 44) hx hb hts inX8 hown hK hP 0 rfl rfl 14 (by decide) fl37 (fun _ h9 => h9) rfl dX8_netOf_24 ?_
          refine lv_iload_n hx hb dX8_netOf_27 rfl (lv_at hl 3 rfl) ?_
          refine m_iald (k := k) hx hb hK hP 2 0 rfl rfl (by omega) (by decide) dX8_netOf_28 ?_
          refine lv_iadd hx hb dX8_netOf_29 ?_
          refine lv_istore_n (lv' := [(2, .int (sm + (fLF k))), (0, .ref aM), (1, .int x), (3, .int (nI k))]) hx hb dX8_netOf_30 rfl hl (by decide) rfl (fun ls hl => ?_)
          refine lv_aload_n hx hb dX8_netOf_31 rfl (lv_at hl 1 rfl) ?_
          refine va_get (D := D) (ci := 8) (v := .ref (mA 7)) (C := RX8) (T := TX8) (N := 44) hx hb hts inX8 hown hK hP 0 rfl rfl 7 (by decide) fl16 (fun _ h9 => h9) rfl dX8_netOf_32 ?_
          refine lv_iload_n hx hb dX8_netOf_35 rfl (lv_at hl 3 rfl) ?_
          refine m_iald (k := k) hx hb hK hP 3 0 rfl rfl (by omega) (by decide) dX8_netOf_36 ?_
          refine lv_iload_n hx hb dX8_netOf_37 rfl (lv_at hl 2 rfl) ?_
          refine lv_icmp_ne (tgt := 50) hx hb dX8_netOf_38 (by decide) (fun c_38 => ?_) (fun c_38 => ?_)
          · skip
            refine lv_iinc (v := (nI (k + 1))) (lv' := [(3, .int (nI (k + 1))), (2, .int (sm + (fLF k))), (0, .ref aM), (1, .int x)]) hx hb dX8_netOf_50 hl (k := 3) rfl (nI_inc k 1 (by decide)) (by decide) rfl (fun ls hl => ?_)
            refine lv_goto (tgt := 4) hx hb dX8_netOf_53 (by decide) ?_
            exact ih_4 (k + 1) (sm + (fLF k)) (by omega) (by omega) (by simp only [netS, c_19, c_38, hs, if_true, if_false]) _ _ (hP) (hD) hS ls (lv_sub hl [2, 3, 1, 0] rfl)
          · skip
            refine lv_iload_n hx hb dX8_netOf_41 rfl (lv_at hl 0 rfl) ?_
            refine lv_aload_n hx hb dX8_netOf_42 rfl (lv_at hl 1 rfl) ?_
            refine va_get (D := D) (ci := 8) (v := .ref (mA 14)) (C := RX8) (T := TX8) (N := 44) hx hb hts inX8 hown hK hP 0 rfl rfl 14 (by decide) fl37 (fun _ h9 => h9) rfl dX8_netOf_43 ?_
            refine lv_iload_n hx hb dX8_netOf_46 rfl (lv_at hl 3 rfl) ?_
            refine m_iald (k := k) hx hb hK hP 2 0 rfl rfl (by omega) (by decide) dX8_netOf_47 ?_
            refine lv_isub hx hb dX8_netOf_48 ?_
            refine lv_istore_n (lv' := [(2, .int ((sm + (fLF k)) - (fLF k))), (0, .ref aM), (1, .int x), (3, .int (nI k))]) hx hb dX8_netOf_49 rfl hl (by decide) rfl (fun ls hl => ?_)
            refine lv_iinc (v := (nI (k + 1))) (lv' := [(3, .int (nI (k + 1))), (2, .int ((sm + (fLF k)) - (fLF k))), (0, .ref aM), (1, .int x)]) hx hb dX8_netOf_50 hl (k := 3) rfl (nI_inc k 1 (by decide)) (by decide) rfl (fun ls hl => ?_)
            refine lv_goto (tgt := 4) hx hb dX8_netOf_53 (by decide) ?_
            exact ih_4 (k + 1) ((sm + (fLF k)) - (fLF k)) (by omega) (by omega) (by simp only [netS, c_19, c_38, hs, if_true, if_false]) _ _ (hP) (hD) hS ls (lv_sub hl [2, 3, 1, 0] rfl)
  exact L_4 ((np - 0) + 1) 0 0 (Nat.lt_succ_self _) (by omega) (rfl) _ _ (hP) (hD) hS ls (lv_sub hl [2, 3, 1, 0] rfl)
abbrev r_c_X8_feed : Room := { frames := 0, cells := 0, slots := 0, locals := 0 }
set_option maxHeartbeats 4000000 in
set_option maxRecDepth 100000 in
theorem c_X8_feed (l : Launch) (D : va_G) (cI cZ : ClassId) (aM : Nat) (mA : Nat → Nat) (nt : Nat) (th : Int32) (td : Int32) (nm : Nat) (np : Nat) (isd : Int32) (ln : Int32) (rf : Int32) (rp : Int32) (sz : Int32) (nx : Int32) (kd : Int32) (wh : Int32) (pl : Int32) (rd : Int32) (rn : Int32) (ic : Int32) (mcm : Int32) (mcp : Int32) (mcr : Int32) (fBY : Nat → Int32) (a1 : Int32) (a2 : Int32) (a3 : Int32) (a4 : Int32) (a5 : Int32) (hnt : nt ≤ 300) : MI l yX8_feed wsX8_feed r_c_X8_feed D cI cZ [.ref aM, .int a1, .int a2, .int a3, .int a4, .int a5] [mo aM mA (nI nt) th td (nI nm) (nI np) isd ln rf rp sz nx kd wh pl rd rn ic mcm mcp mcr, ar cI (mA 0) 300 fBY] (fun (r : Int32) (u : Nat × (Nat → Int32)) => (nt + 20 ≤ 300 ∧ r = nI (nt + 20) ∧ u.1 = nt + 20 ∧ u.2 = put20 fBY nt a1 a2 a3 a4 a5) ∨ (¬ nt + 20 ≤ 300 ∧ r = -1 ∧ u.1 = nt ∧ u.2 = fBY)) (fun (u : Nat × (Nat → Int32)) => [mo aM mA (nI u.1) 0 td (nI nm) (nI np) isd ln rf rp sz nx kd wh pl rd rn ic mcm mcp mcr, ar cI (mA 0) 300 u.2]) 0 0 := by
  refine MI.of (cc := cX8_feed) (maxL := 8) (by decide) rfl (Nat.le_of_ble_eq_true rfl) ?_
  intro p e s m below meth c A Q hx hb hml hown hts hN hK hA ret hP hD hS ls hl
  have hown : s.vm.findClass RX8 = some m.cls := hown
  have inX8 : ∀ w ∈ wsX80, w ∈ wsX8_feed := by decide +kernel
  have fl7 := hts (.fieldLink RX8 7 "AdvanceBookModel" "tape" "[I") (by decide +kernel)
  have fl87 := hts (.fieldLink RX8 87 "AdvanceBookModel" "thrown" "I") (by decide +kernel)
  have fl90 := hts (.fieldLink RX8 90 "AdvanceBookModel" "tapeSize" "I") (by decide +kernel)
  have hP : va_P D vwCl [mo aM mA (nI nt) th td (nI nm) (nI np) isd ln rf rp sz nx kd wh pl rd rn ic mcm mcp mcr, ar cI (mA 0) 300 fBY] s.heap := hP
  have hD : va_D A [mo aM mA (nI nt) th td (nI nm) (nI np) isd ln rf rp sz nx kd wh pl rd rn ic mcm mcp mcr, ar cI (mA 0) 300 fBY] := hD
  have hl : lv_has ls 8 [(0, .ref aM), (1, .int a1), (2, .int a2), (3, .int a3), (4, .int a4), (5, .int a5)] := hl
  refine lv_aload_n hx hb dX8_feed_0 rfl (lv_at hl 0 rfl) ?_
  refine lv_iconst (v := 0) hx hb dX8_feed_1 (by decide) ?_
  refine va_put (D := D) (ci := 8) (v := .int 0) (ty := .int) (C := RX8) (T := TX8) (N := 44) hx hb hts inX8 tyX8 tyX8_ok nmX8 hown hK hP hD hS 0 rfl rfl 2 (by decide) fl87 (fun _ h9 => h9) rfl (by decide +kernel) (rfl) (rfl) (Nat.le_of_ble_eq_true rfl) dX8_feed_2 (fun H locs hP hD hS => ?_)
  have hP : va_P D vwCl [mo aM mA (nI nt) 0 td (nI nm) (nI np) isd ln rf rp sz nx kd wh pl rd rn ic mcm mcp mcr, ar cI (mA 0) 300 fBY] H := hP
  have hD : va_D A [mo aM mA (nI nt) 0 td (nI nm) (nI np) isd ln rf rp sz nx kd wh pl rd rn ic mcm mcp mcr, ar cI (mA 0) 300 fBY] := hD
  refine lv_aload_n hx hb dX8_feed_5 rfl (lv_at hl 0 rfl) ?_
  refine va_get (D := D) (ci := 8) (v := .int (nI nt)) (C := RX8) (T := TX8) (N := 44) hx hb hts inX8 hown hK hP 0 rfl rfl 1 (by decide) fl90 (fun _ h9 => h9) rfl dX8_feed_6 ?_
  refine lv_bipush (v := 20) hx hb dX8_feed_9 (by decide) ?_
  refine m_iaddN (a := nt) (b := 20) hx hb dX8_feed_11 ?_
  refine lv_sipush (v := 300) hx hb dX8_feed_12 (by decide) ?_
  refine lv_icmp_le (tgt := 20) hx hb dX8_feed_15 (by decide) (fun c_15 => ?_) (fun c_15 => ?_)
  · skip
    have k_15 : (nt + 20) ≤ 300 := (nI_leI (a := (nt + 20)) (b := 300) (by omega) (by omega)).mp c_15
    refine lv_iconst (v := 0) hx hb dX8_feed_20 (by decide) ?_
    refine lv_istore (lv' := [(6, .int 0), (0, .ref aM), (1, .int a1), (2, .int a2), (3, .int a3), (4, .int a4), (5, .int a5)]) hx hb dX8_feed_21 hl (by decide) rfl (fun ls hl => ?_)
    have L_23 : ∀ (n_23 : Nat) (k : Nat) (h : Nat → Int32), (20 - k < n_23) → (k ≤ 20) → (h = putB fBY (byte20 a1 a2 a3 a4 a5) nt k) → ∀ (H : Heap) (locs : List Loc), va_P D vwCl [mo aM mA (nI nt) 0 td (nI nm) (nI np) isd ln rf rp sz nx kd wh pl rd rn ic mcm mcp mcr, ar cI (mA 0) 300 h] H → va_D A [mo aM mA (nI nt) 0 td (nI nm) (nI np) isd ln rf rp sz nx kd wh pl rd rn ic mcm mcp mcr, ar cI (mA 0) 300 h] → va_S A s.heap H locs → ∀ ls : Array Slot, lv_has ls 8 [(0, .ref aM), (1, .int a1), (2, .int a2), (3, .int a3), (4, .int a4), (5, .int a5), (6, .int (nI k))] → W p l e r_c_X8_feed s m (([.ref aM, .int a1, .int a2, .int a3, .int a4, .int a5] : List Value).toArray) below meth c H locs 0 0 Q (F0 m 23 ls []) := by
      intro n_23
      induction n_23 with
      | zero => intro k h hfu; exact absurd hfu (Nat.not_lt_zero _)
      | succ n_23 ih_23 =>
        intro k h hfu_23 hk hh H locs hP hD hS ls hl
        refine lv_iload hx hb dX8_feed_23 (lv_at hl 6 rfl) ?_
        refine lv_bipush (v := 20) hx hb dX8_feed_25 (by decide) ?_
        refine lv_icmp_ge (tgt := 113) hx hb dX8_feed_27 (by decide) (fun c_27 => ?_) (fun c_27 => ?_)
        · skip
          have k_27 : 20 ≤ k := (nI_leI (a := 20) (b := k) (by omega) (by omega)).mp c_27
          refine lv_aload_n hx hb dX8_feed_113 rfl (lv_at hl 0 rfl) ?_
          refine lv_dup hx hb dX8_feed_114 rfl ?_
          refine va_get (D := D) (ci := 8) (v := .int (nI nt)) (C := RX8) (T := TX8) (N := 44) hx hb hts inX8 hown hK hP 0 rfl rfl 1 (by decide) fl90 (fun _ h9 => h9) rfl dX8_feed_115 ?_
          refine lv_bipush (v := 20) hx hb dX8_feed_118 (by decide) ?_
          refine m_iaddN (a := nt) (b := 20) hx hb dX8_feed_120 ?_
          refine va_put (D := D) (ci := 8) (v := .int (nI (nt + 20))) (ty := .int) (C := RX8) (T := TX8) (N := 44) hx hb hts inX8 tyX8 tyX8_ok nmX8 hown hK hP hD hS 0 rfl rfl 1 (by decide) fl90 (fun _ h9 => h9) rfl (by decide +kernel) (rfl) (rfl) (Nat.le_of_ble_eq_true rfl) dX8_feed_121 (fun H locs hP hD hS => ?_)
          have hP : va_P D vwCl [mo aM mA (nI (nt + 20)) 0 td (nI nm) (nI np) isd ln rf rp sz nx kd wh pl rd rn ic mcm mcp mcr, ar cI (mA 0) 300 h] H := hP
          have hD : va_D A [mo aM mA (nI (nt + 20)) 0 td (nI nm) (nI np) isd ln rf rp sz nx kd wh pl rd rn ic mcm mcp mcr, ar cI (mA 0) 300 h] := hD
          refine lv_aload_n hx hb dX8_feed_124 rfl (lv_at hl 0 rfl) ?_
          refine va_get (D := D) (ci := 8) (v := .int (nI (nt + 20))) (C := RX8) (T := TX8) (N := 44) hx hb hts inX8 hown hK hP 0 rfl rfl 1 (by decide) fl90 (fun _ h9 => h9) rfl dX8_feed_125 ?_
          exact ret (nI (nt + 20)) ((nt + 20), h) _ _ _ _ dX8_feed_128 (by have e : k = 20 := (by omega); subst e; exact Or.inl ⟨k_15, rfl, rfl, by rw [hh, put20_B]⟩) (hP) (hD) hS
        · skip
          have k_27 : ¬ 20 ≤ k := fun h9 => c_27 ((nI_leI (a := 20) (b := k) (by omega) (by omega)).mpr h9)
          refine lv_iload hx hb dX8_feed_30 (lv_at hl 6 rfl) ?_
          refine lv_iconst (v := 4) hx hb dX8_feed_32 (by decide) ?_
          refine lv_icmp_ge (tgt := 40) hx hb dX8_feed_33 (by decide) (fun c_33 => ?_) (fun c_33 => ?_)
          · skip
            have k_33 : 4 ≤ k := (nI_leI (a := 4) (b := k) (by omega) (by omega)).mp c_33
            refine lv_iload hx hb dX8_feed_40 (lv_at hl 6 rfl) ?_
            refine lv_bipush (v := 8) hx hb dX8_feed_42 (by decide) ?_
            refine lv_icmp_ge (tgt := 51) hx hb dX8_feed_44 (by decide) (fun c_44 => ?_) (fun c_44 => ?_)
            · skip
              have k_44 : 8 ≤ k := (nI_leI (a := 8) (b := k) (by omega) (by omega)).mp c_44
              refine lv_iload hx hb dX8_feed_51 (lv_at hl 6 rfl) ?_
              refine lv_bipush (v := 12) hx hb dX8_feed_53 (by decide) ?_
              refine lv_icmp_ge (tgt := 62) hx hb dX8_feed_55 (by decide) (fun c_55 => ?_) (fun c_55 => ?_)
              · skip
                have k_55 : 12 ≤ k := (nI_leI (a := 12) (b := k) (by omega) (by omega)).mp c_55
                refine lv_iload hx hb dX8_feed_62 (lv_at hl 6 rfl) ?_
                refine lv_bipush (v := 16) hx hb dX8_feed_64 (by decide) ?_
                refine lv_icmp_ge (tgt := 74) hx hb dX8_feed_66 (by decide) (fun c_66 => ?_) (fun c_66 => ?_)
                · skip
                  have k_66 : 16 ≤ k := (nI_leI (a := 16) (b := k) (by omega) (by omega)).mp c_66
                  refine lv_iload hx hb dX8_feed_74 (lv_at hl 5 rfl) ?_
                  refine lv_istore (lv' := [(7, .int a5), (0, .ref aM), (1, .int a1), (2, .int a2), (3, .int a3), (4, .int a4), (5, .int a5), (6, .int (nI k))]) hx hb dX8_feed_76 hl (by decide) rfl (fun ls hl => ?_)
                  refine lv_aload_n hx hb dX8_feed_78 rfl (lv_at hl 1 rfl) ?_
                  refine va_get (D := D) (ci := 8) (v := .ref (mA 0)) (C := RX8) (T := TX8) (N := 44) hx hb hts inX8 hown hK hP 0 rfl rfl 0 (by decide) fl7 (fun _ h9 => h9) rfl dX8_feed_79 ?_
                  refine lv_aload_n hx hb dX8_feed_82 rfl (lv_at hl 1 rfl) ?_
                  refine va_get (D := D) (ci := 8) (v := .int (nI nt)) (C := RX8) (T := TX8) (N := 44) hx hb hts inX8 hown hK hP 0 rfl rfl 1 (by decide) fl90 (fun _ h9 => h9) rfl dX8_feed_83 ?_
                  refine lv_iload hx hb dX8_feed_86 (lv_at hl 7 rfl) ?_
                  refine m_iaddN (a := nt) (b := k) hx hb dX8_feed_88 ?_
                  refine lv_iload hx hb dX8_feed_89 (lv_at hl 0 rfl) ?_
                  refine lv_bipush (v := 24) hx hb dX8_feed_91 (by decide) ?_
                  refine lv_bipush (v := 8) hx hb dX8_feed_93 (by decide) ?_
                  refine lv_iload hx hb dX8_feed_95 (lv_at hl 7 rfl) ?_
                  refine lv_iconst (v := 4) hx hb dX8_feed_97 (by decide) ?_
                  refine lv_irem hx hb dX8_feed_98 (by decide) ?_
                  refine lv_imul hx hb dX8_feed_99 ?_
                  refine lv_isub hx hb dX8_feed_100 ?_
                  refine lv_ishr hx hb dX8_feed_101 ?_
                  refine lv_sipush (v := 255) hx hb dX8_feed_102 (by decide) ?_
                  refine lv_iand hx hb dX8_feed_105 ?_
                  refine m_iast (k := (nt + k)) (x := ((a5 >>> ((24 - (8 * ((nI k) - (nI k) / 4 * 4))) &&& 31)) &&& 255)) hx hb hK hP hD hS 1 0 rfl rfl (by omega) (by decide) dX8_feed_106 (fun H locs hP hD hS => ?_)
                  have hP : va_P D vwCl [mo aM mA (nI nt) 0 td (nI nm) (nI np) isd ln rf rp sz nx kd wh pl rd rn ic mcm mcp mcr, ar cI (mA 0) 300 (upd h (nt + k) ((a5 >>> ((24 - (8 * ((nI k) - (nI k) / 4 * 4))) &&& 31)) &&& 255))] H := hP
                  have hD : va_D A [mo aM mA (nI nt) 0 td (nI nm) (nI np) isd ln rf rp sz nx kd wh pl rd rn ic mcm mcp mcr, ar cI (mA 0) 300 (upd h (nt + k) ((a5 >>> ((24 - (8 * ((nI k) - (nI k) / 4 * 4))) &&& 31)) &&& 255))] := hD
                  refine lv_iinc (v := (nI (k + 1))) (lv' := [(6, .int (nI (k + 1))), (7, .int a5), (0, .ref aM), (1, .int a1), (2, .int a2), (3, .int a3), (4, .int a4), (5, .int a5)]) hx hb dX8_feed_107 hl (k := 7) rfl (nI_inc k 1 (by decide)) (by decide) rfl (fun ls hl => ?_)
                  refine lv_goto (tgt := 23) hx hb dX8_feed_110 (by decide) ?_
                  exact ih_23 (k + 1) (upd h (nt + k) ((a5 >>> ((24 - (8 * ((nI k) - (nI k) / 4 * 4))) &&& 31)) &&& 255)) (by omega) (by omega) (putB_step hh (by rw [feed_byte _ (by omega)]; unfold byte20 w5; first | rw [if_pos (by omega)] | rw [if_neg (by omega), if_pos (by omega)] | rw [if_neg (by omega), if_neg (by omega), if_pos (by omega)] | rw [if_neg (by omega), if_neg (by omega), if_neg (by omega), if_pos (by omega)] | rw [if_neg (by omega), if_neg (by omega), if_neg (by omega), if_neg (by omega)])) _ _ (hP) (hD) hS ls (lv_sub hl [2, 3, 4, 5, 6, 7, 0] rfl)
                · skip
                  have k_66 : ¬ 16 ≤ k := fun h9 => c_66 ((nI_leI (a := 16) (b := k) (by omega) (by omega)).mpr h9)
                  refine lv_iload hx hb dX8_feed_69 (lv_at hl 4 rfl) ?_
                  refine lv_goto (tgt := 76) hx hb dX8_feed_71 (by decide) ?_
                  refine lv_istore (lv' := [(7, .int a4), (0, .ref aM), (1, .int a1), (2, .int a2), (3, .int a3), (4, .int a4), (5, .int a5), (6, .int (nI k))]) hx hb dX8_feed_76 hl (by decide) rfl (fun ls hl => ?_)
                  refine lv_aload_n hx hb dX8_feed_78 rfl (lv_at hl 1 rfl) ?_
                  refine va_get (D := D) (ci := 8) (v := .ref (mA 0)) (C := RX8) (T := TX8) (N := 44) hx hb hts inX8 hown hK hP 0 rfl rfl 0 (by decide) fl7 (fun _ h9 => h9) rfl dX8_feed_79 ?_
                  refine lv_aload_n hx hb dX8_feed_82 rfl (lv_at hl 1 rfl) ?_
                  refine va_get (D := D) (ci := 8) (v := .int (nI nt)) (C := RX8) (T := TX8) (N := 44) hx hb hts inX8 hown hK hP 0 rfl rfl 1 (by decide) fl90 (fun _ h9 => h9) rfl dX8_feed_83 ?_
                  refine lv_iload hx hb dX8_feed_86 (lv_at hl 7 rfl) ?_
                  refine m_iaddN (a := nt) (b := k) hx hb dX8_feed_88 ?_
                  refine lv_iload hx hb dX8_feed_89 (lv_at hl 0 rfl) ?_
                  refine lv_bipush (v := 24) hx hb dX8_feed_91 (by decide) ?_
                  refine lv_bipush (v := 8) hx hb dX8_feed_93 (by decide) ?_
                  refine lv_iload hx hb dX8_feed_95 (lv_at hl 7 rfl) ?_
                  refine lv_iconst (v := 4) hx hb dX8_feed_97 (by decide) ?_
                  refine lv_irem hx hb dX8_feed_98 (by decide) ?_
                  refine lv_imul hx hb dX8_feed_99 ?_
                  refine lv_isub hx hb dX8_feed_100 ?_
                  refine lv_ishr hx hb dX8_feed_101 ?_
                  refine lv_sipush (v := 255) hx hb dX8_feed_102 (by decide) ?_
                  refine lv_iand hx hb dX8_feed_105 ?_
                  refine m_iast (k := (nt + k)) (x := ((a4 >>> ((24 - (8 * ((nI k) - (nI k) / 4 * 4))) &&& 31)) &&& 255)) hx hb hK hP hD hS 1 0 rfl rfl (by omega) (by decide) dX8_feed_106 (fun H locs hP hD hS => ?_)
                  have hP : va_P D vwCl [mo aM mA (nI nt) 0 td (nI nm) (nI np) isd ln rf rp sz nx kd wh pl rd rn ic mcm mcp mcr, ar cI (mA 0) 300 (upd h (nt + k) ((a4 >>> ((24 - (8 * ((nI k) - (nI k) / 4 * 4))) &&& 31)) &&& 255))] H := hP
                  have hD : va_D A [mo aM mA (nI nt) 0 td (nI nm) (nI np) isd ln rf rp sz nx kd wh pl rd rn ic mcm mcp mcr, ar cI (mA 0) 300 (upd h (nt + k) ((a4 >>> ((24 - (8 * ((nI k) - (nI k) / 4 * 4))) &&& 31)) &&& 255))] := hD
                  refine lv_iinc (v := (nI (k + 1))) (lv' := [(6, .int (nI (k + 1))), (7, .int a4), (0, .ref aM), (1, .int a1), (2, .int a2), (3, .int a3), (4, .int a4), (5, .int a5)]) hx hb dX8_feed_107 hl (k := 7) rfl (nI_inc k 1 (by decide)) (by decide) rfl (fun ls hl => ?_)
                  refine lv_goto (tgt := 23) hx hb dX8_feed_110 (by decide) ?_
                  exact ih_23 (k + 1) (upd h (nt + k) ((a4 >>> ((24 - (8 * ((nI k) - (nI k) / 4 * 4))) &&& 31)) &&& 255)) (by omega) (by omega) (putB_step hh (by rw [feed_byte _ (by omega)]; unfold byte20 w5; first | rw [if_pos (by omega)] | rw [if_neg (by omega), if_pos (by omega)] | rw [if_neg (by omega), if_neg (by omega), if_pos (by omega)] | rw [if_neg (by omega), if_neg (by omega), if_neg (by omega), if_pos (by omega)] | rw [if_neg (by omega), if_neg (by omega), if_neg (by omega), if_neg (by omega)])) _ _ (hP) (hD) hS ls (lv_sub hl [2, 3, 4, 5, 6, 7, 0] rfl)
              · skip
                have k_55 : ¬ 12 ≤ k := fun h9 => c_55 ((nI_leI (a := 12) (b := k) (by omega) (by omega)).mpr h9)
                refine lv_iload_n hx hb dX8_feed_58 rfl (lv_at hl 3 rfl) ?_
                refine lv_goto (tgt := 76) hx hb dX8_feed_59 (by decide) ?_
                refine lv_istore (lv' := [(7, .int a3), (0, .ref aM), (1, .int a1), (2, .int a2), (3, .int a3), (4, .int a4), (5, .int a5), (6, .int (nI k))]) hx hb dX8_feed_76 hl (by decide) rfl (fun ls hl => ?_)
                refine lv_aload_n hx hb dX8_feed_78 rfl (lv_at hl 1 rfl) ?_
                refine va_get (D := D) (ci := 8) (v := .ref (mA 0)) (C := RX8) (T := TX8) (N := 44) hx hb hts inX8 hown hK hP 0 rfl rfl 0 (by decide) fl7 (fun _ h9 => h9) rfl dX8_feed_79 ?_
                refine lv_aload_n hx hb dX8_feed_82 rfl (lv_at hl 1 rfl) ?_
                refine va_get (D := D) (ci := 8) (v := .int (nI nt)) (C := RX8) (T := TX8) (N := 44) hx hb hts inX8 hown hK hP 0 rfl rfl 1 (by decide) fl90 (fun _ h9 => h9) rfl dX8_feed_83 ?_
                refine lv_iload hx hb dX8_feed_86 (lv_at hl 7 rfl) ?_
                refine m_iaddN (a := nt) (b := k) hx hb dX8_feed_88 ?_
                refine lv_iload hx hb dX8_feed_89 (lv_at hl 0 rfl) ?_
                refine lv_bipush (v := 24) hx hb dX8_feed_91 (by decide) ?_
                refine lv_bipush (v := 8) hx hb dX8_feed_93 (by decide) ?_
                refine lv_iload hx hb dX8_feed_95 (lv_at hl 7 rfl) ?_
                refine lv_iconst (v := 4) hx hb dX8_feed_97 (by decide) ?_
                refine lv_irem hx hb dX8_feed_98 (by decide) ?_
                refine lv_imul hx hb dX8_feed_99 ?_
                refine lv_isub hx hb dX8_feed_100 ?_
                refine lv_ishr hx hb dX8_feed_101 ?_
                refine lv_sipush (v := 255) hx hb dX8_feed_102 (by decide) ?_
                refine lv_iand hx hb dX8_feed_105 ?_
                refine m_iast (k := (nt + k)) (x := ((a3 >>> ((24 - (8 * ((nI k) - (nI k) / 4 * 4))) &&& 31)) &&& 255)) hx hb hK hP hD hS 1 0 rfl rfl (by omega) (by decide) dX8_feed_106 (fun H locs hP hD hS => ?_)
                have hP : va_P D vwCl [mo aM mA (nI nt) 0 td (nI nm) (nI np) isd ln rf rp sz nx kd wh pl rd rn ic mcm mcp mcr, ar cI (mA 0) 300 (upd h (nt + k) ((a3 >>> ((24 - (8 * ((nI k) - (nI k) / 4 * 4))) &&& 31)) &&& 255))] H := hP
                have hD : va_D A [mo aM mA (nI nt) 0 td (nI nm) (nI np) isd ln rf rp sz nx kd wh pl rd rn ic mcm mcp mcr, ar cI (mA 0) 300 (upd h (nt + k) ((a3 >>> ((24 - (8 * ((nI k) - (nI k) / 4 * 4))) &&& 31)) &&& 255))] := hD
                refine lv_iinc (v := (nI (k + 1))) (lv' := [(6, .int (nI (k + 1))), (7, .int a3), (0, .ref aM), (1, .int a1), (2, .int a2), (3, .int a3), (4, .int a4), (5, .int a5)]) hx hb dX8_feed_107 hl (k := 7) rfl (nI_inc k 1 (by decide)) (by decide) rfl (fun ls hl => ?_)
                refine lv_goto (tgt := 23) hx hb dX8_feed_110 (by decide) ?_
                exact ih_23 (k + 1) (upd h (nt + k) ((a3 >>> ((24 - (8 * ((nI k) - (nI k) / 4 * 4))) &&& 31)) &&& 255)) (by omega) (by omega) (putB_step hh (by rw [feed_byte _ (by omega)]; unfold byte20 w5; first | rw [if_pos (by omega)] | rw [if_neg (by omega), if_pos (by omega)] | rw [if_neg (by omega), if_neg (by omega), if_pos (by omega)] | rw [if_neg (by omega), if_neg (by omega), if_neg (by omega), if_pos (by omega)] | rw [if_neg (by omega), if_neg (by omega), if_neg (by omega), if_neg (by omega)])) _ _ (hP) (hD) hS ls (lv_sub hl [2, 3, 4, 5, 6, 7, 0] rfl)
            · skip
              have k_44 : ¬ 8 ≤ k := fun h9 => c_44 ((nI_leI (a := 8) (b := k) (by omega) (by omega)).mpr h9)
              refine lv_iload_n hx hb dX8_feed_47 rfl (lv_at hl 2 rfl) ?_
              refine lv_goto (tgt := 76) hx hb dX8_feed_48 (by decide) ?_
              refine lv_istore (lv' := [(7, .int a2), (0, .ref aM), (1, .int a1), (2, .int a2), (3, .int a3), (4, .int a4), (5, .int a5), (6, .int (nI k))]) hx hb dX8_feed_76 hl (by decide) rfl (fun ls hl => ?_)
              refine lv_aload_n hx hb dX8_feed_78 rfl (lv_at hl 1 rfl) ?_
              refine va_get (D := D) (ci := 8) (v := .ref (mA 0)) (C := RX8) (T := TX8) (N := 44) hx hb hts inX8 hown hK hP 0 rfl rfl 0 (by decide) fl7 (fun _ h9 => h9) rfl dX8_feed_79 ?_
              refine lv_aload_n hx hb dX8_feed_82 rfl (lv_at hl 1 rfl) ?_
              refine va_get (D := D) (ci := 8) (v := .int (nI nt)) (C := RX8) (T := TX8) (N := 44) hx hb hts inX8 hown hK hP 0 rfl rfl 1 (by decide) fl90 (fun _ h9 => h9) rfl dX8_feed_83 ?_
              refine lv_iload hx hb dX8_feed_86 (lv_at hl 7 rfl) ?_
              refine m_iaddN (a := nt) (b := k) hx hb dX8_feed_88 ?_
              refine lv_iload hx hb dX8_feed_89 (lv_at hl 0 rfl) ?_
              refine lv_bipush (v := 24) hx hb dX8_feed_91 (by decide) ?_
              refine lv_bipush (v := 8) hx hb dX8_feed_93 (by decide) ?_
              refine lv_iload hx hb dX8_feed_95 (lv_at hl 7 rfl) ?_
              refine lv_iconst (v := 4) hx hb dX8_feed_97 (by decide) ?_
              refine lv_irem hx hb dX8_feed_98 (by decide) ?_
              refine lv_imul hx hb dX8_feed_99 ?_
              refine lv_isub hx hb dX8_feed_100 ?_
              refine lv_ishr hx hb dX8_feed_101 ?_
              refine lv_sipush (v := 255) hx hb dX8_feed_102 (by decide) ?_
              refine lv_iand hx hb dX8_feed_105 ?_
              refine m_iast (k := (nt + k)) (x := ((a2 >>> ((24 - (8 * ((nI k) - (nI k) / 4 * 4))) &&& 31)) &&& 255)) hx hb hK hP hD hS 1 0 rfl rfl (by omega) (by decide) dX8_feed_106 (fun H locs hP hD hS => ?_)
              have hP : va_P D vwCl [mo aM mA (nI nt) 0 td (nI nm) (nI np) isd ln rf rp sz nx kd wh pl rd rn ic mcm mcp mcr, ar cI (mA 0) 300 (upd h (nt + k) ((a2 >>> ((24 - (8 * ((nI k) - (nI k) / 4 * 4))) &&& 31)) &&& 255))] H := hP
              have hD : va_D A [mo aM mA (nI nt) 0 td (nI nm) (nI np) isd ln rf rp sz nx kd wh pl rd rn ic mcm mcp mcr, ar cI (mA 0) 300 (upd h (nt + k) ((a2 >>> ((24 - (8 * ((nI k) - (nI k) / 4 * 4))) &&& 31)) &&& 255))] := hD
              refine lv_iinc (v := (nI (k + 1))) (lv' := [(6, .int (nI (k + 1))), (7, .int a2), (0, .ref aM), (1, .int a1), (2, .int a2), (3, .int a3), (4, .int a4), (5, .int a5)]) hx hb dX8_feed_107 hl (k := 7) rfl (nI_inc k 1 (by decide)) (by decide) rfl (fun ls hl => ?_)
              refine lv_goto (tgt := 23) hx hb dX8_feed_110 (by decide) ?_
              exact ih_23 (k + 1) (upd h (nt + k) ((a2 >>> ((24 - (8 * ((nI k) - (nI k) / 4 * 4))) &&& 31)) &&& 255)) (by omega) (by omega) (putB_step hh (by rw [feed_byte _ (by omega)]; unfold byte20 w5; first | rw [if_pos (by omega)] | rw [if_neg (by omega), if_pos (by omega)] | rw [if_neg (by omega), if_neg (by omega), if_pos (by omega)] | rw [if_neg (by omega), if_neg (by omega), if_neg (by omega), if_pos (by omega)] | rw [if_neg (by omega), if_neg (by omega), if_neg (by omega), if_neg (by omega)])) _ _ (hP) (hD) hS ls (lv_sub hl [2, 3, 4, 5, 6, 7, 0] rfl)
          · skip
            have k_33 : ¬ 4 ≤ k := fun h9 => c_33 ((nI_leI (a := 4) (b := k) (by omega) (by omega)).mpr h9)
            refine lv_iload_n hx hb dX8_feed_36 rfl (lv_at hl 1 rfl) ?_
            refine lv_goto (tgt := 76) hx hb dX8_feed_37 (by decide) ?_
            refine lv_istore (lv' := [(7, .int a1), (0, .ref aM), (1, .int a1), (2, .int a2), (3, .int a3), (4, .int a4), (5, .int a5), (6, .int (nI k))]) hx hb dX8_feed_76 hl (by decide) rfl (fun ls hl => ?_)
            refine lv_aload_n hx hb dX8_feed_78 rfl (lv_at hl 1 rfl) ?_
            refine va_get (D := D) (ci := 8) (v := .ref (mA 0)) (C := RX8) (T := TX8) (N := 44) hx hb hts inX8 hown hK hP 0 rfl rfl 0 (by decide) fl7 (fun _ h9 => h9) rfl dX8_feed_79 ?_
            refine lv_aload_n hx hb dX8_feed_82 rfl (lv_at hl 1 rfl) ?_
            refine va_get (D := D) (ci := 8) (v := .int (nI nt)) (C := RX8) (T := TX8) (N := 44) hx hb hts inX8 hown hK hP 0 rfl rfl 1 (by decide) fl90 (fun _ h9 => h9) rfl dX8_feed_83 ?_
            refine lv_iload hx hb dX8_feed_86 (lv_at hl 7 rfl) ?_
            refine m_iaddN (a := nt) (b := k) hx hb dX8_feed_88 ?_
            refine lv_iload hx hb dX8_feed_89 (lv_at hl 0 rfl) ?_
            refine lv_bipush (v := 24) hx hb dX8_feed_91 (by decide) ?_
            refine lv_bipush (v := 8) hx hb dX8_feed_93 (by decide) ?_
            refine lv_iload hx hb dX8_feed_95 (lv_at hl 7 rfl) ?_
            refine lv_iconst (v := 4) hx hb dX8_feed_97 (by decide) ?_
            refine lv_irem hx hb dX8_feed_98 (by decide) ?_
            refine lv_imul hx hb dX8_feed_99 ?_
            refine lv_isub hx hb dX8_feed_100 ?_
            refine lv_ishr hx hb dX8_feed_101 ?_
            refine lv_sipush (v := 255) hx hb dX8_feed_102 (by decide) ?_
            refine lv_iand hx hb dX8_feed_105 ?_
            refine m_iast (k := (nt + k)) (x := ((a1 >>> ((24 - (8 * ((nI k) - (nI k) / 4 * 4))) &&& 31)) &&& 255)) hx hb hK hP hD hS 1 0 rfl rfl (by omega) (by decide) dX8_feed_106 (fun H locs hP hD hS => ?_)
            have hP : va_P D vwCl [mo aM mA (nI nt) 0 td (nI nm) (nI np) isd ln rf rp sz nx kd wh pl rd rn ic mcm mcp mcr, ar cI (mA 0) 300 (upd h (nt + k) ((a1 >>> ((24 - (8 * ((nI k) - (nI k) / 4 * 4))) &&& 31)) &&& 255))] H := hP
            have hD : va_D A [mo aM mA (nI nt) 0 td (nI nm) (nI np) isd ln rf rp sz nx kd wh pl rd rn ic mcm mcp mcr, ar cI (mA 0) 300 (upd h (nt + k) ((a1 >>> ((24 - (8 * ((nI k) - (nI k) / 4 * 4))) &&& 31)) &&& 255))] := hD
            refine lv_iinc (v := (nI (k + 1))) (lv' := [(6, .int (nI (k + 1))), (7, .int a1), (0, .ref aM), (1, .int a1), (2, .int a2), (3, .int a3), (4, .int a4), (5, .int a5)]) hx hb dX8_feed_107 hl (k := 7) rfl (nI_inc k 1 (by decide)) (by decide) rfl (fun ls hl => ?_)
            refine lv_goto (tgt := 23) hx hb dX8_feed_110 (by decide) ?_
            exact ih_23 (k + 1) (upd h (nt + k) ((a1 >>> ((24 - (8 * ((nI k) - (nI k) / 4 * 4))) &&& 31)) &&& 255)) (by omega) (by omega) (putB_step hh (by rw [feed_byte _ (by omega)]; unfold byte20 w5; first | rw [if_pos (by omega)] | rw [if_neg (by omega), if_pos (by omega)] | rw [if_neg (by omega), if_neg (by omega), if_pos (by omega)] | rw [if_neg (by omega), if_neg (by omega), if_neg (by omega), if_pos (by omega)] | rw [if_neg (by omega), if_neg (by omega), if_neg (by omega), if_neg (by omega)])) _ _ (hP) (hD) hS ls (lv_sub hl [2, 3, 4, 5, 6, 7, 0] rfl)
    exact L_23 ((20 - 0) + 1) 0 fBY (Nat.lt_succ_self _) (by omega) (putB_0.symm) _ _ (hP) (hD) hS ls (lv_sub hl [1, 2, 3, 4, 5, 6, 0] rfl)
  · skip
    have k_15 : ¬ (nt + 20) ≤ 300 := fun h9 => c_15 ((nI_leI (a := (nt + 20)) (b := 300) (by omega) (by omega)).mpr h9)
    refine lv_iconst (v := (-1)) hx hb dX8_feed_18 (by decide) ?_
    exact ret (-1) (nt, fBY) _ _ _ _ dX8_feed_19 (Or.inr ⟨k_15, rfl, rfl, rfl⟩) (hP) (hD) hS
abbrev r_c_X8_man : Room := { frames := 0, cells := 0, slots := 0, locals := 0 }
set_option maxHeartbeats 4000000 in
set_option maxRecDepth 100000 in
theorem c_X8_man (l : Launch) (D : va_G) (cI cZ : ClassId) (aM : Nat) (mA : Nat → Nat) (nt : Nat) (th : Int32) (td : Int32) (nm : Nat) (np : Nat) (isd : Int32) (ln : Int32) (rf : Int32) (rp : Int32) (sz : Int32) (nx : Int32) (kd : Int32) (wh : Int32) (pl : Int32) (rd : Int32) (rn : Int32) (ic : Int32) (mcm : Int32) (mcp : Int32) (mcr : Int32) (fPU : Nat → Int32) (x : Int32) (hnm : nm ≤ 10) : MI l yX8_man wsX8_man r_c_X8_man D cI cZ [.ref aM, .int x] [mo aM mA (nI nt) th td (nI nm) (nI np) isd ln rf rp sz nx kd wh pl rd rn ic mcm mcp mcr, ar cI (mA 5) 10 fPU] (fun (r : Int32) (u : Nat × (Nat → Int32)) => (0 ≤ x ∧ x ≤ 99999 ∧ nm < 10 ∧ r = nI nm ∧ u.1 = nm + 1 ∧ u.2 = upd fPU nm x) ∨ (¬ (0 ≤ x ∧ x ≤ 99999 ∧ nm < 10) ∧ r = -1 ∧ u.1 = nm ∧ u.2 = fPU)) (fun (u : Nat × (Nat → Int32)) => [mo aM mA (nI nt) 0 td (nI u.1) (nI np) isd ln rf rp sz nx kd wh pl rd rn ic mcm mcp mcr, ar cI (mA 5) 10 u.2]) 0 0 := by
  refine MI.of (cc := cX8_man) (maxL := 2) (by decide) rfl (Nat.le_of_ble_eq_true rfl) ?_
  intro p e s m below meth c A Q hx hb hml hown hts hN hK hA ret hP hD hS ls hl
  have hown : s.vm.findClass RX8 = some m.cls := hown
  have inX8 : ∀ w ∈ wsX80, w ∈ wsX8_man := by decide +kernel
  have fl13 := hts (.fieldLink RX8 13 "AdvanceBookModel" "purse" "[I") (by decide +kernel)
  have fl87 := hts (.fieldLink RX8 87 "AdvanceBookModel" "thrown" "I") (by decide +kernel)
  have fl94 := hts (.fieldLink RX8 94 "AdvanceBookModel" "men" "I") (by decide +kernel)
  have hP : va_P D vwCl [mo aM mA (nI nt) th td (nI nm) (nI np) isd ln rf rp sz nx kd wh pl rd rn ic mcm mcp mcr, ar cI (mA 5) 10 fPU] s.heap := hP
  have hD : va_D A [mo aM mA (nI nt) th td (nI nm) (nI np) isd ln rf rp sz nx kd wh pl rd rn ic mcm mcp mcr, ar cI (mA 5) 10 fPU] := hD
  have hl : lv_has ls 2 [(0, .ref aM), (1, .int x)] := hl
  refine lv_aload_n hx hb dX8_man_0 rfl (lv_at hl 0 rfl) ?_
  refine lv_iconst (v := 0) hx hb dX8_man_1 (by decide) ?_
  refine va_put (D := D) (ci := 8) (v := .int 0) (ty := .int) (C := RX8) (T := TX8) (N := 44) hx hb hts inX8 tyX8 tyX8_ok nmX8 hown hK hP hD hS 0 rfl rfl 2 (by decide) fl87 (fun _ h9 => h9) rfl (by decide +kernel) (rfl) (rfl) (Nat.le_of_ble_eq_true rfl) dX8_man_2 (fun H locs hP hD hS => ?_)
  have hP : va_P D vwCl [mo aM mA (nI nt) 0 td (nI nm) (nI np) isd ln rf rp sz nx kd wh pl rd rn ic mcm mcp mcr, ar cI (mA 5) 10 fPU] H := hP
  have hD : va_D A [mo aM mA (nI nt) 0 td (nI nm) (nI np) isd ln rf rp sz nx kd wh pl rd rn ic mcm mcp mcr, ar cI (mA 5) 10 fPU] := hD
  refine lv_iload_n hx hb dX8_man_5 rfl (lv_at hl 1 rfl) ?_
  refine lv_if_lt (tgt := 24) hx hb dX8_man_6 (by decide) (fun c_6 => ?_) (fun c_6 => ?_)
  · skip
    refine lv_iconst (v := (-1)) hx hb dX8_man_24 (by decide) ?_
    exact ret (-1) (nm, fPU) _ _ _ _ dX8_man_25 (Or.inr ⟨by first | grind | (intro q; omega), rfl, rfl, rfl⟩) (hP) (hD) hS
  · skip
    refine lv_iload_n hx hb dX8_man_9 rfl (lv_at hl 1 rfl) ?_
    refine lv_ldc (v := 99999) hx hb hown (hts (.constant RX8 93 99999) (by decide +kernel)) dX8_man_10 ?_
    refine lv_icmp_gt (tgt := 24) hx hb dX8_man_12 (by decide) (fun c_12 => ?_) (fun c_12 => ?_)
    · skip
      refine lv_iconst (v := (-1)) hx hb dX8_man_24 (by decide) ?_
      exact ret (-1) (nm, fPU) _ _ _ _ dX8_man_25 (Or.inr ⟨by first | grind | (intro q; omega), rfl, rfl, rfl⟩) (hP) (hD) hS
    · skip
      refine lv_aload_n hx hb dX8_man_15 rfl (lv_at hl 0 rfl) ?_
      refine va_get (D := D) (ci := 8) (v := .int (nI nm)) (C := RX8) (T := TX8) (N := 44) hx hb hts inX8 hown hK hP 0 rfl rfl 4 (by decide) fl94 (fun _ h9 => h9) rfl dX8_man_16 ?_
      refine lv_bipush (v := 10) hx hb dX8_man_19 (by decide) ?_
      refine lv_icmp_ne (tgt := 26) hx hb dX8_man_21 (by decide) (fun c_21 => ?_) (fun c_21 => ?_)
      · skip
        have k_21 : ¬ nm = 10 := fun h9 => c_21 ((nI_eq (a := nm) (b := 10) (by omega) (by omega)).mpr h9)
        refine lv_aload_n hx hb dX8_man_26 rfl (lv_at hl 0 rfl) ?_
        refine va_get (D := D) (ci := 8) (v := .ref (mA 5)) (C := RX8) (T := TX8) (N := 44) hx hb hts inX8 hown hK hP 0 rfl rfl 5 (by decide) fl13 (fun _ h9 => h9) rfl dX8_man_27 ?_
        refine lv_aload_n hx hb dX8_man_30 rfl (lv_at hl 0 rfl) ?_
        refine va_get (D := D) (ci := 8) (v := .int (nI nm)) (C := RX8) (T := TX8) (N := 44) hx hb hts inX8 hown hK hP 0 rfl rfl 4 (by decide) fl94 (fun _ h9 => h9) rfl dX8_man_31 ?_
        refine lv_iload_n hx hb dX8_man_34 rfl (lv_at hl 1 rfl) ?_
        refine m_iast (k := nm) (x := x) hx hb hK hP hD hS 1 0 rfl rfl (by omega) (by decide) dX8_man_35 (fun H locs hP hD hS => ?_)
        have hP : va_P D vwCl [mo aM mA (nI nt) 0 td (nI nm) (nI np) isd ln rf rp sz nx kd wh pl rd rn ic mcm mcp mcr, ar cI (mA 5) 10 (upd fPU nm x)] H := hP
        have hD : va_D A [mo aM mA (nI nt) 0 td (nI nm) (nI np) isd ln rf rp sz nx kd wh pl rd rn ic mcm mcp mcr, ar cI (mA 5) 10 (upd fPU nm x)] := hD
        refine lv_aload_n hx hb dX8_man_36 rfl (lv_at hl 0 rfl) ?_
        refine lv_dup hx hb dX8_man_37 rfl ?_
        refine va_get (D := D) (ci := 8) (v := .int (nI nm)) (C := RX8) (T := TX8) (N := 44) hx hb hts inX8 hown hK hP 0 rfl rfl 4 (by decide) fl94 (fun _ h9 => h9) rfl dX8_man_38 ?_
        refine lv_iconst (v := 1) hx hb dX8_man_41 (by decide) ?_
        refine m_iaddN (a := nm) (b := 1) hx hb dX8_man_42 ?_
        refine va_put (D := D) (ci := 8) (v := .int (nI (nm + 1))) (ty := .int) (C := RX8) (T := TX8) (N := 44) hx hb hts inX8 tyX8 tyX8_ok nmX8 hown hK hP hD hS 0 rfl rfl 4 (by decide) fl94 (fun _ h9 => h9) rfl (by decide +kernel) (rfl) (rfl) (Nat.le_of_ble_eq_true rfl) dX8_man_43 (fun H locs hP hD hS => ?_)
        have hP : va_P D vwCl [mo aM mA (nI nt) 0 td (nI (nm + 1)) (nI np) isd ln rf rp sz nx kd wh pl rd rn ic mcm mcp mcr, ar cI (mA 5) 10 (upd fPU nm x)] H := hP
        have hD : va_D A [mo aM mA (nI nt) 0 td (nI (nm + 1)) (nI np) isd ln rf rp sz nx kd wh pl rd rn ic mcm mcp mcr, ar cI (mA 5) 10 (upd fPU nm x)] := hD
        refine lv_aload_n hx hb dX8_man_46 rfl (lv_at hl 0 rfl) ?_
        refine va_get (D := D) (ci := 8) (v := .int (nI (nm + 1))) (C := RX8) (T := TX8) (N := 44) hx hb hts inX8 hown hK hP 0 rfl rfl 4 (by decide) fl94 (fun _ h9 => h9) rfl dX8_man_47 ?_
        refine lv_iconst (v := 1) hx hb dX8_man_50 (by decide) ?_
        refine lv_isub hx hb dX8_man_51 ?_
        exact ret ((nI (nm + 1)) - 1) ((nm + 1), (upd fPU nm x)) _ _ _ _ dX8_man_52 (Or.inl ⟨by grind, by grind, by omega, nI_pred nm, rfl, rfl⟩) (hP) (hD) hS
      · skip
        have k_21 : nm = 10 := (nI_eq (a := nm) (b := 10) (by omega) (by omega)).mp c_21
        refine lv_iconst (v := (-1)) hx hb dX8_man_24 (by decide) ?_
        exact ret (-1) (nm, fPU) _ _ _ _ dX8_man_25 (Or.inr ⟨by first | grind | (intro q; omega), rfl, rfl, rfl⟩) (hP) (hD) hS
abbrev r_c_X8_paper : Room := { frames := 1, cells := 0, slots := 0, locals := 21 }
set_option maxHeartbeats 4000000 in
set_option maxRecDepth 100000 in
theorem c_X8_paper (l : Launch) (D : va_G) (cI cZ : ClassId) (aM : Nat) (mA : Nat → Nat) (nt : Nat) (th : Int32) (td : Int32) (nm : Nat) (np : Nat) (isd : Int32) (ln : Int32) (rf : Int32) (rp : Int32) (sz : Int32) (nx : Int32) (kd : Int32) (wh : Int32) (pl : Int32) (rd : Int32) (rn : Int32) (ic : Int32) (mcm : Int32) (mcp : Int32) (mcr : Int32) (fTD : Nat → Int32) (fTC : Nat → Int32) (fTK : Nat → Int32) (fTR : Nat → Int32) (fDY : Nat → Int32) (fCP : Nat → Int32) (fDB : Nat → Int32) (fCR : Nat → Int32) (fRK : Nat → Int32) (fLF : Nat → Int32) (a : Int32) (b : Int32) (x : Int32) (z : Int32) (hnm : nm ≤ 10) (hnp : np ≤ 40) : MI l yX8_paper wsX8_paper r_c_X8_paper D cI cZ [.ref aM, .int a, .int b, .int x, .int z] [mo aM mA (nI nt) th td (nI nm) (nI np) isd ln rf rp sz nx kd wh pl rd rn ic mcm mcp mcr, ar cI (mA 9) 40 fTD, ar cI (mA 10) 40 fTC, ar cI (mA 12) 40 fTK, ar cI (mA 11) 40 fTR, ar cI (mA 15) 40 fDY, ar cZ (mA 16) 40 fCP, ar cI (mA 7) 40 fDB, ar cI (mA 8) 40 fCR, ar cI (mA 13) 40 fRK, ar cI (mA 14) 40 fLF] (fun (r : Int32) (u : (Nat → Int32) × (Nat → Int32) × (Nat → Int32) × (Nat → Int32) × (Nat → Int32) × (Nat → Int32) × (Nat → Int32) × (Nat → Int32) × (Nat → Int32) × (Nat → Int32) × Nat) => (((0 ≤ a ∧ a < nI nm) ∧ (0 ≤ b ∧ b < nI nm) ∧ ¬ a = b ∧ 1 ≤ x ∧ x ≤ 999 ∧ 0 ≤ z ∧ z < 4) ∧ np < 40 ∧ r = nI np ∧ u.2.2.2.2.2.2.2.2.2.2 = np + 1 ∧ u.1 = upd fTD np a ∧ u.2.1 = upd fTC np b ∧ u.2.2.1 = upd fTK np x ∧ u.2.2.2.1 = upd fTR np z ∧ u.2.2.2.2.1 = upd fDY np td ∧ u.2.2.2.2.2.1 = upd fCP np (if told fTD fTC fTK fTR fDY a b x z td np = true then 1 else 0) ∧ u.2.2.2.2.2.2.1 = upd fDB np a ∧ u.2.2.2.2.2.2.2.1 = upd fCR np b ∧ u.2.2.2.2.2.2.2.2.1 = upd fRK np z ∧ u.2.2.2.2.2.2.2.2.2.1 = upd fLF np (if told fTD fTC fTK fTR fDY a b x z td np = true then 0 else x)) ∨ (¬ (((0 ≤ a ∧ a < nI nm) ∧ (0 ≤ b ∧ b < nI nm) ∧ ¬ a = b ∧ 1 ≤ x ∧ x ≤ 999 ∧ 0 ≤ z ∧ z < 4) ∧ np < 40) ∧ r = -1 ∧ u.2.2.2.2.2.2.2.2.2.2 = np ∧ u.1 = fTD ∧ u.2.1 = fTC ∧ u.2.2.1 = fTK ∧ u.2.2.2.1 = fTR ∧ u.2.2.2.2.1 = fDY ∧ u.2.2.2.2.2.1 = fCP ∧ u.2.2.2.2.2.2.1 = fDB ∧ u.2.2.2.2.2.2.2.1 = fCR ∧ u.2.2.2.2.2.2.2.2.1 = fRK ∧ u.2.2.2.2.2.2.2.2.2.1 = fLF)) (fun (u : (Nat → Int32) × (Nat → Int32) × (Nat → Int32) × (Nat → Int32) × (Nat → Int32) × (Nat → Int32) × (Nat → Int32) × (Nat → Int32) × (Nat → Int32) × (Nat → Int32) × Nat) => [mo aM mA (nI nt) 0 td (nI nm) (nI u.2.2.2.2.2.2.2.2.2.2) isd ln rf rp sz nx kd wh pl rd rn ic mcm mcp mcr, ar cI (mA 9) 40 u.1, ar cI (mA 10) 40 u.2.1, ar cI (mA 12) 40 u.2.2.1, ar cI (mA 11) 40 u.2.2.2.1, ar cI (mA 15) 40 u.2.2.2.2.1, ar cZ (mA 16) 40 u.2.2.2.2.2.1, ar cI (mA 7) 40 u.2.2.2.2.2.2.1, ar cI (mA 8) 40 u.2.2.2.2.2.2.2.1, ar cI (mA 13) 40 u.2.2.2.2.2.2.2.2.1, ar cI (mA 14) 40 u.2.2.2.2.2.2.2.2.2.1]) 0 0 := by
  refine MI.of (cc := cX8_paper) (maxL := 7) (by decide) rfl (Nat.le_of_ble_eq_true rfl) ?_
  intro p e s m below meth c A Q hx hb hml hown hts hN hK hA ret hP hD hS ls hl
  have hown : s.vm.findClass RX8 = some m.cls := hown
  have inX8 : ∀ w ∈ wsX80, w ∈ wsX8_paper := by decide +kernel
  have fl16 := hts (.fieldLink RX8 16 "AdvanceBookModel" "debtor" "[I") (by decide +kernel)
  have fl19 := hts (.fieldLink RX8 19 "AdvanceBookModel" "creditor" "[I") (by decide +kernel)
  have fl22 := hts (.fieldLink RX8 22 "AdvanceBookModel" "toldDebtor" "[I") (by decide +kernel)
  have fl25 := hts (.fieldLink RX8 25 "AdvanceBookModel" "toldCreditor" "[I") (by decide +kernel)
  have fl28 := hts (.fieldLink RX8 28 "AdvanceBookModel" "toldRank" "[I") (by decide +kernel)
  have fl31 := hts (.fieldLink RX8 31 "AdvanceBookModel" "coins" "[I") (by decide +kernel)
  have fl34 := hts (.fieldLink RX8 34 "AdvanceBookModel" "rank" "[I") (by decide +kernel)
  have fl37 := hts (.fieldLink RX8 37 "AdvanceBookModel" "left" "[I") (by decide +kernel)
  have fl40 := hts (.fieldLink RX8 40 "AdvanceBookModel" "day" "[I") (by decide +kernel)
  have fl43 := hts (.fieldLink RX8 43 "AdvanceBookModel" "isCopy" "[Z") (by decide +kernel)
  have fl87 := hts (.fieldLink RX8 87 "AdvanceBookModel" "thrown" "I") (by decide +kernel)
  have fl101 := hts (.fieldLink RX8 101 "AdvanceBookModel" "papers" "I") (by decide +kernel)
  have fl104 := hts (.fieldLink RX8 104 "AdvanceBookModel" "today" "I") (by decide +kernel)
  have hP : va_P D vwCl [mo aM mA (nI nt) th td (nI nm) (nI np) isd ln rf rp sz nx kd wh pl rd rn ic mcm mcp mcr, ar cI (mA 9) 40 fTD, ar cI (mA 10) 40 fTC, ar cI (mA 12) 40 fTK, ar cI (mA 11) 40 fTR, ar cI (mA 15) 40 fDY, ar cZ (mA 16) 40 fCP, ar cI (mA 7) 40 fDB, ar cI (mA 8) 40 fCR, ar cI (mA 13) 40 fRK, ar cI (mA 14) 40 fLF] s.heap := hP
  have hD : va_D A [mo aM mA (nI nt) th td (nI nm) (nI np) isd ln rf rp sz nx kd wh pl rd rn ic mcm mcp mcr, ar cI (mA 9) 40 fTD, ar cI (mA 10) 40 fTC, ar cI (mA 12) 40 fTK, ar cI (mA 11) 40 fTR, ar cI (mA 15) 40 fDY, ar cZ (mA 16) 40 fCP, ar cI (mA 7) 40 fDB, ar cI (mA 8) 40 fCR, ar cI (mA 13) 40 fRK, ar cI (mA 14) 40 fLF] := hD
  have hl : lv_has ls 7 [(0, .ref aM), (1, .int a), (2, .int b), (3, .int x), (4, .int z)] := hl
  refine lv_aload_n hx hb dX8_paper_0 rfl (lv_at hl 0 rfl) ?_
  refine lv_iconst (v := 0) hx hb dX8_paper_1 (by decide) ?_
  refine va_put (D := D) (ci := 8) (v := .int 0) (ty := .int) (C := RX8) (T := TX8) (N := 44) hx hb hts inX8 tyX8 tyX8_ok nmX8 hown hK hP hD hS 0 rfl rfl 2 (by decide) fl87 (fun _ h9 => h9) rfl (by decide +kernel) (rfl) (rfl) (Nat.le_of_ble_eq_true rfl) dX8_paper_2 (fun H locs hP hD hS => ?_)
  have hP : va_P D vwCl [mo aM mA (nI nt) 0 td (nI nm) (nI np) isd ln rf rp sz nx kd wh pl rd rn ic mcm mcp mcr, ar cI (mA 9) 40 fTD, ar cI (mA 10) 40 fTC, ar cI (mA 12) 40 fTK, ar cI (mA 11) 40 fTR, ar cI (mA 15) 40 fDY, ar cZ (mA 16) 40 fCP, ar cI (mA 7) 40 fDB, ar cI (mA 8) 40 fCR, ar cI (mA 13) 40 fRK, ar cI (mA 14) 40 fLF] H := hP
  have hD : va_D A [mo aM mA (nI nt) 0 td (nI nm) (nI np) isd ln rf rp sz nx kd wh pl rd rn ic mcm mcp mcr, ar cI (mA 9) 40 fTD, ar cI (mA 10) 40 fTC, ar cI (mA 12) 40 fTK, ar cI (mA 11) 40 fTR, ar cI (mA 15) 40 fDY, ar cZ (mA 16) 40 fCP, ar cI (mA 7) 40 fDB, ar cI (mA 8) 40 fCR, ar cI (mA 13) 40 fRK, ar cI (mA 14) 40 fLF] := hD
  refine lv_aload_n hx hb dX8_paper_5 rfl (lv_at hl 0 rfl) ?_
  refine lv_iload_n hx hb dX8_paper_6 rfl (lv_at hl 1 rfl) ?_
  refine m_cVi (As := [.int a]) (rest := []) (wr := [ar cI (mA 9) 40 fTD, ar cI (mA 10) 40 fTC, ar cI (mA 12) 40 fTK, ar cI (mA 11) 40 fTR, ar cI (mA 15) 40 fDY, ar cZ (mA 16) 40 fCP, ar cI (mA 7) 40 fDB, ar cI (mA 8) 40 fCR, ar cI (mA 13) 40 fRK, ar cI (mA 14) 40 fLF]) ⟨hx, hb, hml, hown, hts⟩ (c_X8_isMan l D cI cZ aM mA nt 0 td nm np isd ln rf rp sz nx kd wh pl rd rn ic mcm mcp mcr a ) (cwV 1 hts gX8_paper_X8_isMan rfl rfl rfl (by decide +kernel) ⟨Nat.le_of_ble_eq_true rfl, Nat.le_of_ble_eq_true rfl⟩) hN hK hP hD hS hA [0] [1, 2, 3, 4, 5, 6, 7, 8, 9, 10] rfl rfl (by decide) (by decide) (by decide) 0 (ci := 8) rfl rfl rfl rfl hl.1 rfl (Nat.le_of_ble_eq_true rfl) dX8_paper_7 ⟨Nat.le_of_ble_eq_true rfl, Nat.le_of_ble_eq_true rfl⟩ (fun r_7 u_7 H locs hq_7 hP hD hS => ?_)
  have hq_7 : r_7 = if 0 ≤ a ∧ a < nI nm then 1 else 0 := hq_7
  have hP : va_P D vwCl [ar cI (mA 9) 40 fTD, ar cI (mA 10) 40 fTC, ar cI (mA 12) 40 fTK, ar cI (mA 11) 40 fTR, ar cI (mA 15) 40 fDY, ar cZ (mA 16) 40 fCP, ar cI (mA 7) 40 fDB, ar cI (mA 8) 40 fCR, ar cI (mA 13) 40 fRK, ar cI (mA 14) 40 fLF, mo aM mA (nI nt) 0 td (nI nm) (nI np) isd ln rf rp sz nx kd wh pl rd rn ic mcm mcp mcr] H := hP
  have hD : va_D A [ar cI (mA 9) 40 fTD, ar cI (mA 10) 40 fTC, ar cI (mA 12) 40 fTK, ar cI (mA 11) 40 fTR, ar cI (mA 15) 40 fDY, ar cZ (mA 16) 40 fCP, ar cI (mA 7) 40 fDB, ar cI (mA 8) 40 fCR, ar cI (mA 13) 40 fRK, ar cI (mA 14) 40 fLF, mo aM mA (nI nt) 0 td (nI nm) (nI np) isd ln rf rp sz nx kd wh pl rd rn ic mcm mcp mcr] := hD
  refine lv_if_eq (tgt := 58) hx hb dX8_paper_10 (by decide) (fun c_10 => ?_) (fun c_10 => ?_)
  · skip
    refine lv_iconst (v := (-1)) hx hb dX8_paper_58 (by decide) ?_
    exact ret (-1) (fTD, fTC, fTK, fTR, fDY, fCP, fDB, fCR, fRK, fLF, np) _ _ _ _ dX8_paper_59 (Or.inr ⟨fun q => by first | exact man_not hq_7 c_10 q.1.1 | exact man_not hq_15 c_18 q.1.2.1 | (obtain ⟨⟨q1, q2, q3, q4, q5, q6, q7⟩, q8⟩ := q; first | exact q3 c_23 | omega | grind), rfl, rfl, rfl, rfl, rfl, rfl, rfl, rfl, rfl, rfl, rfl, rfl⟩) (hP.sub [10, 0, 1, 2, 3, 4, 5, 6, 7, 8, 9] rfl) (hD.sub [10, 0, 1, 2, 3, 4, 5, 6, 7, 8, 9] (by decide) rfl) hS
  · skip
    refine lv_aload_n hx hb dX8_paper_13 rfl (lv_at hl 0 rfl) ?_
    refine lv_iload_n hx hb dX8_paper_14 rfl (lv_at hl 2 rfl) ?_
    refine m_cVi (As := [.int b]) (rest := []) (wr := [ar cI (mA 9) 40 fTD, ar cI (mA 10) 40 fTC, ar cI (mA 12) 40 fTK, ar cI (mA 11) 40 fTR, ar cI (mA 15) 40 fDY, ar cZ (mA 16) 40 fCP, ar cI (mA 7) 40 fDB, ar cI (mA 8) 40 fCR, ar cI (mA 13) 40 fRK, ar cI (mA 14) 40 fLF]) ⟨hx, hb, hml, hown, hts⟩ (c_X8_isMan l D cI cZ aM mA nt 0 td nm np isd ln rf rp sz nx kd wh pl rd rn ic mcm mcp mcr b ) (cwV 1 hts gX8_paper_X8_isMan rfl rfl rfl (by decide +kernel) ⟨Nat.le_of_ble_eq_true rfl, Nat.le_of_ble_eq_true rfl⟩) hN hK hP hD hS hA [10] [0, 1, 2, 3, 4, 5, 6, 7, 8, 9] rfl rfl (by decide) (by decide) (by decide) 0 (ci := 8) rfl rfl rfl rfl hl.1 rfl (Nat.le_of_ble_eq_true rfl) dX8_paper_15 ⟨Nat.le_of_ble_eq_true rfl, Nat.le_of_ble_eq_true rfl⟩ (fun r_15 u_15 H locs hq_15 hP hD hS => ?_)
    have hq_15 : r_15 = if 0 ≤ b ∧ b < nI nm then 1 else 0 := hq_15
    have hP : va_P D vwCl [ar cI (mA 9) 40 fTD, ar cI (mA 10) 40 fTC, ar cI (mA 12) 40 fTK, ar cI (mA 11) 40 fTR, ar cI (mA 15) 40 fDY, ar cZ (mA 16) 40 fCP, ar cI (mA 7) 40 fDB, ar cI (mA 8) 40 fCR, ar cI (mA 13) 40 fRK, ar cI (mA 14) 40 fLF, mo aM mA (nI nt) 0 td (nI nm) (nI np) isd ln rf rp sz nx kd wh pl rd rn ic mcm mcp mcr] H := hP
    have hD : va_D A [ar cI (mA 9) 40 fTD, ar cI (mA 10) 40 fTC, ar cI (mA 12) 40 fTK, ar cI (mA 11) 40 fTR, ar cI (mA 15) 40 fDY, ar cZ (mA 16) 40 fCP, ar cI (mA 7) 40 fDB, ar cI (mA 8) 40 fCR, ar cI (mA 13) 40 fRK, ar cI (mA 14) 40 fLF, mo aM mA (nI nt) 0 td (nI nm) (nI np) isd ln rf rp sz nx kd wh pl rd rn ic mcm mcp mcr] := hD
    refine lv_if_eq (tgt := 58) hx hb dX8_paper_18 (by decide) (fun c_18 => ?_) (fun c_18 => ?_)
    · skip
      refine lv_iconst (v := (-1)) hx hb dX8_paper_58 (by decide) ?_
      exact ret (-1) (fTD, fTC, fTK, fTR, fDY, fCP, fDB, fCR, fRK, fLF, np) _ _ _ _ dX8_paper_59 (Or.inr ⟨fun q => by first | exact man_not hq_7 c_10 q.1.1 | exact man_not hq_15 c_18 q.1.2.1 | (obtain ⟨⟨q1, q2, q3, q4, q5, q6, q7⟩, q8⟩ := q; first | exact q3 c_23 | omega | grind), rfl, rfl, rfl, rfl, rfl, rfl, rfl, rfl, rfl, rfl, rfl, rfl⟩) (hP.sub [10, 0, 1, 2, 3, 4, 5, 6, 7, 8, 9] rfl) (hD.sub [10, 0, 1, 2, 3, 4, 5, 6, 7, 8, 9] (by decide) rfl) hS
    · skip
      refine lv_iload_n hx hb dX8_paper_21 rfl (lv_at hl 1 rfl) ?_
      refine lv_iload_n hx hb dX8_paper_22 rfl (lv_at hl 2 rfl) ?_
      refine lv_icmp_eq (tgt := 58) hx hb dX8_paper_23 (by decide) (fun c_23 => ?_) (fun c_23 => ?_)
      · skip
        refine lv_iconst (v := (-1)) hx hb dX8_paper_58 (by decide) ?_
        exact ret (-1) (fTD, fTC, fTK, fTR, fDY, fCP, fDB, fCR, fRK, fLF, np) _ _ _ _ dX8_paper_59 (Or.inr ⟨fun q => by first | exact man_not hq_7 c_10 q.1.1 | exact man_not hq_15 c_18 q.1.2.1 | (obtain ⟨⟨q1, q2, q3, q4, q5, q6, q7⟩, q8⟩ := q; first | exact q3 c_23 | omega | grind), rfl, rfl, rfl, rfl, rfl, rfl, rfl, rfl, rfl, rfl, rfl, rfl⟩) (hP.sub [10, 0, 1, 2, 3, 4, 5, 6, 7, 8, 9] rfl) (hD.sub [10, 0, 1, 2, 3, 4, 5, 6, 7, 8, 9] (by decide) rfl) hS
      · skip
        refine lv_iload_n hx hb dX8_paper_26 rfl (lv_at hl 3 rfl) ?_
        refine lv_iconst (v := 1) hx hb dX8_paper_27 (by decide) ?_
        refine lv_icmp_lt (tgt := 58) hx hb dX8_paper_28 (by decide) (fun c_28 => ?_) (fun c_28 => ?_)
        · skip
          refine lv_iconst (v := (-1)) hx hb dX8_paper_58 (by decide) ?_
          exact ret (-1) (fTD, fTC, fTK, fTR, fDY, fCP, fDB, fCR, fRK, fLF, np) _ _ _ _ dX8_paper_59 (Or.inr ⟨fun q => by first | exact man_not hq_7 c_10 q.1.1 | exact man_not hq_15 c_18 q.1.2.1 | (obtain ⟨⟨q1, q2, q3, q4, q5, q6, q7⟩, q8⟩ := q; first | exact q3 c_23 | omega | grind), rfl, rfl, rfl, rfl, rfl, rfl, rfl, rfl, rfl, rfl, rfl, rfl⟩) (hP.sub [10, 0, 1, 2, 3, 4, 5, 6, 7, 8, 9] rfl) (hD.sub [10, 0, 1, 2, 3, 4, 5, 6, 7, 8, 9] (by decide) rfl) hS
        · skip
          refine lv_iload_n hx hb dX8_paper_31 rfl (lv_at hl 3 rfl) ?_
          refine lv_sipush (v := 999) hx hb dX8_paper_32 (by decide) ?_
          refine lv_icmp_gt (tgt := 58) hx hb dX8_paper_35 (by decide) (fun c_35 => ?_) (fun c_35 => ?_)
          · skip
            refine lv_iconst (v := (-1)) hx hb dX8_paper_58 (by decide) ?_
            exact ret (-1) (fTD, fTC, fTK, fTR, fDY, fCP, fDB, fCR, fRK, fLF, np) _ _ _ _ dX8_paper_59 (Or.inr ⟨fun q => by first | exact man_not hq_7 c_10 q.1.1 | exact man_not hq_15 c_18 q.1.2.1 | (obtain ⟨⟨q1, q2, q3, q4, q5, q6, q7⟩, q8⟩ := q; first | exact q3 c_23 | omega | grind), rfl, rfl, rfl, rfl, rfl, rfl, rfl, rfl, rfl, rfl, rfl, rfl⟩) (hP.sub [10, 0, 1, 2, 3, 4, 5, 6, 7, 8, 9] rfl) (hD.sub [10, 0, 1, 2, 3, 4, 5, 6, 7, 8, 9] (by decide) rfl) hS
          · skip
            refine lv_iload hx hb dX8_paper_38 (lv_at hl 4 rfl) ?_
            refine lv_if_lt (tgt := 58) hx hb dX8_paper_40 (by decide) (fun c_40 => ?_) (fun c_40 => ?_)
            · skip
              refine lv_iconst (v := (-1)) hx hb dX8_paper_58 (by decide) ?_
              exact ret (-1) (fTD, fTC, fTK, fTR, fDY, fCP, fDB, fCR, fRK, fLF, np) _ _ _ _ dX8_paper_59 (Or.inr ⟨fun q => by first | exact man_not hq_7 c_10 q.1.1 | exact man_not hq_15 c_18 q.1.2.1 | (obtain ⟨⟨q1, q2, q3, q4, q5, q6, q7⟩, q8⟩ := q; first | exact q3 c_23 | omega | grind), rfl, rfl, rfl, rfl, rfl, rfl, rfl, rfl, rfl, rfl, rfl, rfl⟩) (hP.sub [10, 0, 1, 2, 3, 4, 5, 6, 7, 8, 9] rfl) (hD.sub [10, 0, 1, 2, 3, 4, 5, 6, 7, 8, 9] (by decide) rfl) hS
            · skip
              refine lv_iload hx hb dX8_paper_43 (lv_at hl 4 rfl) ?_
              refine lv_iconst (v := 3) hx hb dX8_paper_45 (by decide) ?_
              refine lv_icmp_gt (tgt := 58) hx hb dX8_paper_46 (by decide) (fun c_46 => ?_) (fun c_46 => ?_)
              · skip
                refine lv_iconst (v := (-1)) hx hb dX8_paper_58 (by decide) ?_
                exact ret (-1) (fTD, fTC, fTK, fTR, fDY, fCP, fDB, fCR, fRK, fLF, np) _ _ _ _ dX8_paper_59 (Or.inr ⟨fun q => by first | exact man_not hq_7 c_10 q.1.1 | exact man_not hq_15 c_18 q.1.2.1 | (obtain ⟨⟨q1, q2, q3, q4, q5, q6, q7⟩, q8⟩ := q; first | exact q3 c_23 | omega | grind), rfl, rfl, rfl, rfl, rfl, rfl, rfl, rfl, rfl, rfl, rfl, rfl⟩) (hP.sub [10, 0, 1, 2, 3, 4, 5, 6, 7, 8, 9] rfl) (hD.sub [10, 0, 1, 2, 3, 4, 5, 6, 7, 8, 9] (by decide) rfl) hS
              · skip
                refine lv_aload_n hx hb dX8_paper_49 rfl (lv_at hl 0 rfl) ?_
                refine va_get (D := D) (ci := 8) (v := .int (nI np)) (C := RX8) (T := TX8) (N := 44) hx hb hts inX8 hown hK hP 10 rfl rfl 6 (by decide) fl101 (fun _ h9 => h9) rfl dX8_paper_50 ?_
                refine lv_bipush (v := 40) hx hb dX8_paper_53 (by decide) ?_
                refine lv_icmp_ne (tgt := 60) hx hb dX8_paper_55 (by decide) (fun c_55 => ?_) (fun c_55 => ?_)
                · skip
                  have k_55 : ¬ np = 40 := fun h9 => c_55 ((nI_eq (a := np) (b := 40) (by omega) (by omega)).mpr h9)
                  refine lv_iconst (v := 0) hx hb dX8_paper_60 (by decide) ?_
                  refine lv_istore (lv' := [(5, .int 0), (0, .ref aM), (1, .int a), (2, .int b), (3, .int x), (4, .int z)]) hx hb dX8_paper_61 hl (by decide) rfl (fun ls hl => ?_)
                  refine lv_iconst (v := 0) hx hb dX8_paper_63 (by decide) ?_
                  refine lv_istore (lv' := [(6, .int 0), (5, .int 0), (0, .ref aM), (1, .int a), (2, .int b), (3, .int x), (4, .int z)]) hx hb dX8_paper_64 hl (by decide) rfl (fun ls hl => ?_)
                  have L_66 : ∀ (n_66 : Nat) (k : Nat) (cp : Int32), (np - k < n_66) → (k ≤ np) → (cp = if told fTD fTC fTK fTR fDY a b x z td k = true then 1 else 0) → ∀ (H : Heap) (locs : List Loc), va_P D vwCl [ar cI (mA 9) 40 fTD, ar cI (mA 10) 40 fTC, ar cI (mA 12) 40 fTK, ar cI (mA 11) 40 fTR, ar cI (mA 15) 40 fDY, ar cZ (mA 16) 40 fCP, ar cI (mA 7) 40 fDB, ar cI (mA 8) 40 fCR, ar cI (mA 13) 40 fRK, ar cI (mA 14) 40 fLF, mo aM mA (nI nt) 0 td (nI nm) (nI np) isd ln rf rp sz nx kd wh pl rd rn ic mcm mcp mcr] H → va_D A [ar cI (mA 9) 40 fTD, ar cI (mA 10) 40 fTC, ar cI (mA 12) 40 fTK, ar cI (mA 11) 40 fTR, ar cI (mA 15) 40 fDY, ar cZ (mA 16) 40 fCP, ar cI (mA 7) 40 fDB, ar cI (mA 8) 40 fCR, ar cI (mA 13) 40 fRK, ar cI (mA 14) 40 fLF, mo aM mA (nI nt) 0 td (nI nm) (nI np) isd ln rf rp sz nx kd wh pl rd rn ic mcm mcp mcr] → va_S A s.heap H locs → ∀ ls : Array Slot, lv_has ls 7 [(0, .ref aM), (1, .int a), (2, .int b), (3, .int x), (4, .int z), (5, .int cp), (6, .int (nI k))] → W p l e r_c_X8_paper s m (([.ref aM, .int a, .int b, .int x, .int z] : List Value).toArray) below meth c H locs 0 0 Q (F0 m 66 ls []) := by
                    intro n_66
                    induction n_66 with
                    | zero => intro k cp hfu; exact absurd hfu (Nat.not_lt_zero _)
                    | succ n_66 ih_66 =>
                      intro k cp hfu_66 hk hc H locs hP hD hS ls hl
                      have hz : cp = 0 ∨ cp = 1 := (by rw [hc]; split <;> simp)
                      refine lv_iload hx hb dX8_paper_66 (lv_at hl 6 rfl) ?_
                      refine lv_aload_n hx hb dX8_paper_68 rfl (lv_at hl 0 rfl) ?_
                      refine va_get (D := D) (ci := 8) (v := .int (nI np)) (C := RX8) (T := TX8) (N := 44) hx hb hts inX8 hown hK hP 10 rfl rfl 6 (by decide) fl101 (fun _ h9 => h9) rfl dX8_paper_69 ?_
                      refine lv_icmp_ge (tgt := 152) hx hb dX8_paper_72 (by decide) (fun c_72 => ?_) (fun c_72 => ?_)
                      · skip
                        have k_72 : np ≤ k := (nI_leI (a := np) (b := k) (by omega) (by omega)).mp c_72
                        refine lv_aload_n hx hb dX8_paper_152 rfl (lv_at hl 0 rfl) ?_
                        refine va_get (D := D) (ci := 8) (v := .ref (mA 7)) (C := RX8) (T := TX8) (N := 44) hx hb hts inX8 hown hK hP 10 rfl rfl 7 (by decide) fl16 (fun _ h9 => h9) rfl dX8_paper_153 ?_
                        refine lv_aload_n hx hb dX8_paper_156 rfl (lv_at hl 0 rfl) ?_
                        refine va_get (D := D) (ci := 8) (v := .int (nI np)) (C := RX8) (T := TX8) (N := 44) hx hb hts inX8 hown hK hP 10 rfl rfl 6 (by decide) fl101 (fun _ h9 => h9) rfl dX8_paper_157 ?_
                        refine lv_iload_n hx hb dX8_paper_160 rfl (lv_at hl 1 rfl) ?_
                        refine m_iast (k := np) (x := a) hx hb hK hP hD hS 6 0 rfl rfl (by omega) (by decide) dX8_paper_161 (fun H locs hP hD hS => ?_)
                        have hP : va_P D vwCl [ar cI (mA 9) 40 fTD, ar cI (mA 10) 40 fTC, ar cI (mA 12) 40 fTK, ar cI (mA 11) 40 fTR, ar cI (mA 15) 40 fDY, ar cZ (mA 16) 40 fCP, ar cI (mA 7) 40 (upd fDB np a), ar cI (mA 8) 40 fCR, ar cI (mA 13) 40 fRK, ar cI (mA 14) 40 fLF, mo aM mA (nI nt) 0 td (nI nm) (nI np) isd ln rf rp sz nx kd wh pl rd rn ic mcm mcp mcr] H := hP
                        have hD : va_D A [ar cI (mA 9) 40 fTD, ar cI (mA 10) 40 fTC, ar cI (mA 12) 40 fTK, ar cI (mA 11) 40 fTR, ar cI (mA 15) 40 fDY, ar cZ (mA 16) 40 fCP, ar cI (mA 7) 40 (upd fDB np a), ar cI (mA 8) 40 fCR, ar cI (mA 13) 40 fRK, ar cI (mA 14) 40 fLF, mo aM mA (nI nt) 0 td (nI nm) (nI np) isd ln rf rp sz nx kd wh pl rd rn ic mcm mcp mcr] := hD
                        refine lv_aload_n hx hb dX8_paper_162 rfl (lv_at hl 0 rfl) ?_
                        refine va_get (D := D) (ci := 8) (v := .ref (mA 8)) (C := RX8) (T := TX8) (N := 44) hx hb hts inX8 hown hK hP 10 rfl rfl 8 (by decide) fl19 (fun _ h9 => h9) rfl dX8_paper_163 ?_
                        refine lv_aload_n hx hb dX8_paper_166 rfl (lv_at hl 0 rfl) ?_
                        refine va_get (D := D) (ci := 8) (v := .int (nI np)) (C := RX8) (T := TX8) (N := 44) hx hb hts inX8 hown hK hP 10 rfl rfl 6 (by decide) fl101 (fun _ h9 => h9) rfl dX8_paper_167 ?_
                        refine lv_iload_n hx hb dX8_paper_170 rfl (lv_at hl 2 rfl) ?_
                        refine m_iast (k := np) (x := b) hx hb hK hP hD hS 7 0 rfl rfl (by omega) (by decide) dX8_paper_171 (fun H locs hP hD hS => ?_)
                        have hP : va_P D vwCl [ar cI (mA 9) 40 fTD, ar cI (mA 10) 40 fTC, ar cI (mA 12) 40 fTK, ar cI (mA 11) 40 fTR, ar cI (mA 15) 40 fDY, ar cZ (mA 16) 40 fCP, ar cI (mA 7) 40 (upd fDB np a), ar cI (mA 8) 40 (upd fCR np b), ar cI (mA 13) 40 fRK, ar cI (mA 14) 40 fLF, mo aM mA (nI nt) 0 td (nI nm) (nI np) isd ln rf rp sz nx kd wh pl rd rn ic mcm mcp mcr] H := hP
                        have hD : va_D A [ar cI (mA 9) 40 fTD, ar cI (mA 10) 40 fTC, ar cI (mA 12) 40 fTK, ar cI (mA 11) 40 fTR, ar cI (mA 15) 40 fDY, ar cZ (mA 16) 40 fCP, ar cI (mA 7) 40 (upd fDB np a), ar cI (mA 8) 40 (upd fCR np b), ar cI (mA 13) 40 fRK, ar cI (mA 14) 40 fLF, mo aM mA (nI nt) 0 td (nI nm) (nI np) isd ln rf rp sz nx kd wh pl rd rn ic mcm mcp mcr] := hD
                        refine lv_aload_n hx hb dX8_paper_172 rfl (lv_at hl 0 rfl) ?_
                        refine va_get (D := D) (ci := 8) (v := .ref (mA 9)) (C := RX8) (T := TX8) (N := 44) hx hb hts inX8 hown hK hP 10 rfl rfl 9 (by decide) fl22 (fun _ h9 => h9) rfl dX8_paper_173 ?_
                        refine lv_aload_n hx hb dX8_paper_176 rfl (lv_at hl 0 rfl) ?_
                        refine va_get (D := D) (ci := 8) (v := .int (nI np)) (C := RX8) (T := TX8) (N := 44) hx hb hts inX8 hown hK hP 10 rfl rfl 6 (by decide) fl101 (fun _ h9 => h9) rfl dX8_paper_177 ?_
                        refine lv_iload_n hx hb dX8_paper_180 rfl (lv_at hl 1 rfl) ?_
                        refine m_iast (k := np) (x := a) hx hb hK hP hD hS 0 0 rfl rfl (by omega) (by decide) dX8_paper_181 (fun H locs hP hD hS => ?_)
                        have hP : va_P D vwCl [ar cI (mA 9) 40 (upd fTD np a), ar cI (mA 10) 40 fTC, ar cI (mA 12) 40 fTK, ar cI (mA 11) 40 fTR, ar cI (mA 15) 40 fDY, ar cZ (mA 16) 40 fCP, ar cI (mA 7) 40 (upd fDB np a), ar cI (mA 8) 40 (upd fCR np b), ar cI (mA 13) 40 fRK, ar cI (mA 14) 40 fLF, mo aM mA (nI nt) 0 td (nI nm) (nI np) isd ln rf rp sz nx kd wh pl rd rn ic mcm mcp mcr] H := hP
                        have hD : va_D A [ar cI (mA 9) 40 (upd fTD np a), ar cI (mA 10) 40 fTC, ar cI (mA 12) 40 fTK, ar cI (mA 11) 40 fTR, ar cI (mA 15) 40 fDY, ar cZ (mA 16) 40 fCP, ar cI (mA 7) 40 (upd fDB np a), ar cI (mA 8) 40 (upd fCR np b), ar cI (mA 13) 40 fRK, ar cI (mA 14) 40 fLF, mo aM mA (nI nt) 0 td (nI nm) (nI np) isd ln rf rp sz nx kd wh pl rd rn ic mcm mcp mcr] := hD
                        refine lv_aload_n hx hb dX8_paper_182 rfl (lv_at hl 0 rfl) ?_
                        refine va_get (D := D) (ci := 8) (v := .ref (mA 10)) (C := RX8) (T := TX8) (N := 44) hx hb hts inX8 hown hK hP 10 rfl rfl 10 (by decide) fl25 (fun _ h9 => h9) rfl dX8_paper_183 ?_
                        refine lv_aload_n hx hb dX8_paper_186 rfl (lv_at hl 0 rfl) ?_
                        refine va_get (D := D) (ci := 8) (v := .int (nI np)) (C := RX8) (T := TX8) (N := 44) hx hb hts inX8 hown hK hP 10 rfl rfl 6 (by decide) fl101 (fun _ h9 => h9) rfl dX8_paper_187 ?_
                        refine lv_iload_n hx hb dX8_paper_190 rfl (lv_at hl 2 rfl) ?_
                        refine m_iast (k := np) (x := b) hx hb hK hP hD hS 1 0 rfl rfl (by omega) (by decide) dX8_paper_191 (fun H locs hP hD hS => ?_)
                        have hP : va_P D vwCl [ar cI (mA 9) 40 (upd fTD np a), ar cI (mA 10) 40 (upd fTC np b), ar cI (mA 12) 40 fTK, ar cI (mA 11) 40 fTR, ar cI (mA 15) 40 fDY, ar cZ (mA 16) 40 fCP, ar cI (mA 7) 40 (upd fDB np a), ar cI (mA 8) 40 (upd fCR np b), ar cI (mA 13) 40 fRK, ar cI (mA 14) 40 fLF, mo aM mA (nI nt) 0 td (nI nm) (nI np) isd ln rf rp sz nx kd wh pl rd rn ic mcm mcp mcr] H := hP
                        have hD : va_D A [ar cI (mA 9) 40 (upd fTD np a), ar cI (mA 10) 40 (upd fTC np b), ar cI (mA 12) 40 fTK, ar cI (mA 11) 40 fTR, ar cI (mA 15) 40 fDY, ar cZ (mA 16) 40 fCP, ar cI (mA 7) 40 (upd fDB np a), ar cI (mA 8) 40 (upd fCR np b), ar cI (mA 13) 40 fRK, ar cI (mA 14) 40 fLF, mo aM mA (nI nt) 0 td (nI nm) (nI np) isd ln rf rp sz nx kd wh pl rd rn ic mcm mcp mcr] := hD
                        refine lv_aload_n hx hb dX8_paper_192 rfl (lv_at hl 0 rfl) ?_
                        refine va_get (D := D) (ci := 8) (v := .ref (mA 11)) (C := RX8) (T := TX8) (N := 44) hx hb hts inX8 hown hK hP 10 rfl rfl 11 (by decide) fl28 (fun _ h9 => h9) rfl dX8_paper_193 ?_
                        refine lv_aload_n hx hb dX8_paper_196 rfl (lv_at hl 0 rfl) ?_
                        refine va_get (D := D) (ci := 8) (v := .int (nI np)) (C := RX8) (T := TX8) (N := 44) hx hb hts inX8 hown hK hP 10 rfl rfl 6 (by decide) fl101 (fun _ h9 => h9) rfl dX8_paper_197 ?_
                        refine lv_iload hx hb dX8_paper_200 (lv_at hl 4 rfl) ?_
                        refine m_iast (k := np) (x := z) hx hb hK hP hD hS 3 0 rfl rfl (by omega) (by decide) dX8_paper_202 (fun H locs hP hD hS => ?_)
                        have hP : va_P D vwCl [ar cI (mA 9) 40 (upd fTD np a), ar cI (mA 10) 40 (upd fTC np b), ar cI (mA 12) 40 fTK, ar cI (mA 11) 40 (upd fTR np z), ar cI (mA 15) 40 fDY, ar cZ (mA 16) 40 fCP, ar cI (mA 7) 40 (upd fDB np a), ar cI (mA 8) 40 (upd fCR np b), ar cI (mA 13) 40 fRK, ar cI (mA 14) 40 fLF, mo aM mA (nI nt) 0 td (nI nm) (nI np) isd ln rf rp sz nx kd wh pl rd rn ic mcm mcp mcr] H := hP
                        have hD : va_D A [ar cI (mA 9) 40 (upd fTD np a), ar cI (mA 10) 40 (upd fTC np b), ar cI (mA 12) 40 fTK, ar cI (mA 11) 40 (upd fTR np z), ar cI (mA 15) 40 fDY, ar cZ (mA 16) 40 fCP, ar cI (mA 7) 40 (upd fDB np a), ar cI (mA 8) 40 (upd fCR np b), ar cI (mA 13) 40 fRK, ar cI (mA 14) 40 fLF, mo aM mA (nI nt) 0 td (nI nm) (nI np) isd ln rf rp sz nx kd wh pl rd rn ic mcm mcp mcr] := hD
                        refine lv_aload_n hx hb dX8_paper_203 rfl (lv_at hl 0 rfl) ?_
                        refine va_get (D := D) (ci := 8) (v := .ref (mA 12)) (C := RX8) (T := TX8) (N := 44) hx hb hts inX8 hown hK hP 10 rfl rfl 12 (by decide) fl31 (fun _ h9 => h9) rfl dX8_paper_204 ?_
                        refine lv_aload_n hx hb dX8_paper_207 rfl (lv_at hl 0 rfl) ?_
                        refine va_get (D := D) (ci := 8) (v := .int (nI np)) (C := RX8) (T := TX8) (N := 44) hx hb hts inX8 hown hK hP 10 rfl rfl 6 (by decide) fl101 (fun _ h9 => h9) rfl dX8_paper_208 ?_
                        refine lv_iload_n hx hb dX8_paper_211 rfl (lv_at hl 3 rfl) ?_
                        refine m_iast (k := np) (x := x) hx hb hK hP hD hS 2 0 rfl rfl (by omega) (by decide) dX8_paper_212 (fun H locs hP hD hS => ?_)
                        have hP : va_P D vwCl [ar cI (mA 9) 40 (upd fTD np a), ar cI (mA 10) 40 (upd fTC np b), ar cI (mA 12) 40 (upd fTK np x), ar cI (mA 11) 40 (upd fTR np z), ar cI (mA 15) 40 fDY, ar cZ (mA 16) 40 fCP, ar cI (mA 7) 40 (upd fDB np a), ar cI (mA 8) 40 (upd fCR np b), ar cI (mA 13) 40 fRK, ar cI (mA 14) 40 fLF, mo aM mA (nI nt) 0 td (nI nm) (nI np) isd ln rf rp sz nx kd wh pl rd rn ic mcm mcp mcr] H := hP
                        have hD : va_D A [ar cI (mA 9) 40 (upd fTD np a), ar cI (mA 10) 40 (upd fTC np b), ar cI (mA 12) 40 (upd fTK np x), ar cI (mA 11) 40 (upd fTR np z), ar cI (mA 15) 40 fDY, ar cZ (mA 16) 40 fCP, ar cI (mA 7) 40 (upd fDB np a), ar cI (mA 8) 40 (upd fCR np b), ar cI (mA 13) 40 fRK, ar cI (mA 14) 40 fLF, mo aM mA (nI nt) 0 td (nI nm) (nI np) isd ln rf rp sz nx kd wh pl rd rn ic mcm mcp mcr] := hD
                        refine lv_aload_n hx hb dX8_paper_213 rfl (lv_at hl 0 rfl) ?_
                        refine va_get (D := D) (ci := 8) (v := .ref (mA 13)) (C := RX8) (T := TX8) (N := 44) hx hb hts inX8 hown hK hP 10 rfl rfl 13 (by decide) fl34 (fun _ h9 => h9) rfl dX8_paper_214 ?_
                        refine lv_aload_n hx hb dX8_paper_217 rfl (lv_at hl 0 rfl) ?_
                        refine va_get (D := D) (ci := 8) (v := .int (nI np)) (C := RX8) (T := TX8) (N := 44) hx hb hts inX8 hown hK hP 10 rfl rfl 6 (by decide) fl101 (fun _ h9 => h9) rfl dX8_paper_218 ?_
                        refine lv_iload hx hb dX8_paper_221 (lv_at hl 4 rfl) ?_
                        refine m_iast (k := np) (x := z) hx hb hK hP hD hS 8 0 rfl rfl (by omega) (by decide) dX8_paper_223 (fun H locs hP hD hS => ?_)
                        have hP : va_P D vwCl [ar cI (mA 9) 40 (upd fTD np a), ar cI (mA 10) 40 (upd fTC np b), ar cI (mA 12) 40 (upd fTK np x), ar cI (mA 11) 40 (upd fTR np z), ar cI (mA 15) 40 fDY, ar cZ (mA 16) 40 fCP, ar cI (mA 7) 40 (upd fDB np a), ar cI (mA 8) 40 (upd fCR np b), ar cI (mA 13) 40 (upd fRK np z), ar cI (mA 14) 40 fLF, mo aM mA (nI nt) 0 td (nI nm) (nI np) isd ln rf rp sz nx kd wh pl rd rn ic mcm mcp mcr] H := hP
                        have hD : va_D A [ar cI (mA 9) 40 (upd fTD np a), ar cI (mA 10) 40 (upd fTC np b), ar cI (mA 12) 40 (upd fTK np x), ar cI (mA 11) 40 (upd fTR np z), ar cI (mA 15) 40 fDY, ar cZ (mA 16) 40 fCP, ar cI (mA 7) 40 (upd fDB np a), ar cI (mA 8) 40 (upd fCR np b), ar cI (mA 13) 40 (upd fRK np z), ar cI (mA 14) 40 fLF, mo aM mA (nI nt) 0 td (nI nm) (nI np) isd ln rf rp sz nx kd wh pl rd rn ic mcm mcp mcr] := hD
                        refine lv_aload_n hx hb dX8_paper_224 rfl (lv_at hl 0 rfl) ?_
                        refine va_get (D := D) (ci := 8) (v := .ref (mA 14)) (C := RX8) (T := TX8) (N := 44) hx hb hts inX8 hown hK hP 10 rfl rfl 14 (by decide) fl37 (fun _ h9 => h9) rfl dX8_paper_225 ?_
                        refine lv_aload_n hx hb dX8_paper_228 rfl (lv_at hl 0 rfl) ?_
                        refine va_get (D := D) (ci := 8) (v := .int (nI np)) (C := RX8) (T := TX8) (N := 44) hx hb hts inX8 hown hK hP 10 rfl rfl 6 (by decide) fl101 (fun _ h9 => h9) rfl dX8_paper_229 ?_
                        refine lv_iload hx hb dX8_paper_232 (lv_at hl 5 rfl) ?_
                        refine lv_if_eq (tgt := 241) hx hb dX8_paper_234 (by decide) (fun c_234 => ?_) (fun c_234 => ?_)
                        · skip
                          refine lv_iload_n hx hb dX8_paper_241 rfl (lv_at hl 3 rfl) ?_
                          refine m_iast (k := np) (x := x) hx hb hK hP hD hS 9 0 rfl rfl (by omega) (by decide) dX8_paper_242 (fun H locs hP hD hS => ?_)
                          have hP : va_P D vwCl [ar cI (mA 9) 40 (upd fTD np a), ar cI (mA 10) 40 (upd fTC np b), ar cI (mA 12) 40 (upd fTK np x), ar cI (mA 11) 40 (upd fTR np z), ar cI (mA 15) 40 fDY, ar cZ (mA 16) 40 fCP, ar cI (mA 7) 40 (upd fDB np a), ar cI (mA 8) 40 (upd fCR np b), ar cI (mA 13) 40 (upd fRK np z), ar cI (mA 14) 40 (upd fLF np x), mo aM mA (nI nt) 0 td (nI nm) (nI np) isd ln rf rp sz nx kd wh pl rd rn ic mcm mcp mcr] H := hP
                          have hD : va_D A [ar cI (mA 9) 40 (upd fTD np a), ar cI (mA 10) 40 (upd fTC np b), ar cI (mA 12) 40 (upd fTK np x), ar cI (mA 11) 40 (upd fTR np z), ar cI (mA 15) 40 fDY, ar cZ (mA 16) 40 fCP, ar cI (mA 7) 40 (upd fDB np a), ar cI (mA 8) 40 (upd fCR np b), ar cI (mA 13) 40 (upd fRK np z), ar cI (mA 14) 40 (upd fLF np x), mo aM mA (nI nt) 0 td (nI nm) (nI np) isd ln rf rp sz nx kd wh pl rd rn ic mcm mcp mcr] := hD
                          refine lv_aload_n hx hb dX8_paper_243 rfl (lv_at hl 0 rfl) ?_
                          refine va_get (D := D) (ci := 8) (v := .ref (mA 15)) (C := RX8) (T := TX8) (N := 44) hx hb hts inX8 hown hK hP 10 rfl rfl 15 (by decide) fl40 (fun _ h9 => h9) rfl dX8_paper_244 ?_
                          refine lv_aload_n hx hb dX8_paper_247 rfl (lv_at hl 0 rfl) ?_
                          refine va_get (D := D) (ci := 8) (v := .int (nI np)) (C := RX8) (T := TX8) (N := 44) hx hb hts inX8 hown hK hP 10 rfl rfl 6 (by decide) fl101 (fun _ h9 => h9) rfl dX8_paper_248 ?_
                          refine lv_aload_n hx hb dX8_paper_251 rfl (lv_at hl 0 rfl) ?_
                          refine va_get (D := D) (ci := 8) (v := .int td) (C := RX8) (T := TX8) (N := 44) hx hb hts inX8 hown hK hP 10 rfl rfl 3 (by decide) fl104 (fun _ h9 => h9) rfl dX8_paper_252 ?_
                          refine m_iast (k := np) (x := td) hx hb hK hP hD hS 4 0 rfl rfl (by omega) (by decide) dX8_paper_255 (fun H locs hP hD hS => ?_)
                          have hP : va_P D vwCl [ar cI (mA 9) 40 (upd fTD np a), ar cI (mA 10) 40 (upd fTC np b), ar cI (mA 12) 40 (upd fTK np x), ar cI (mA 11) 40 (upd fTR np z), ar cI (mA 15) 40 (upd fDY np td), ar cZ (mA 16) 40 fCP, ar cI (mA 7) 40 (upd fDB np a), ar cI (mA 8) 40 (upd fCR np b), ar cI (mA 13) 40 (upd fRK np z), ar cI (mA 14) 40 (upd fLF np x), mo aM mA (nI nt) 0 td (nI nm) (nI np) isd ln rf rp sz nx kd wh pl rd rn ic mcm mcp mcr] H := hP
                          have hD : va_D A [ar cI (mA 9) 40 (upd fTD np a), ar cI (mA 10) 40 (upd fTC np b), ar cI (mA 12) 40 (upd fTK np x), ar cI (mA 11) 40 (upd fTR np z), ar cI (mA 15) 40 (upd fDY np td), ar cZ (mA 16) 40 fCP, ar cI (mA 7) 40 (upd fDB np a), ar cI (mA 8) 40 (upd fCR np b), ar cI (mA 13) 40 (upd fRK np z), ar cI (mA 14) 40 (upd fLF np x), mo aM mA (nI nt) 0 td (nI nm) (nI np) isd ln rf rp sz nx kd wh pl rd rn ic mcm mcp mcr] := hD
                          refine lv_aload_n hx hb dX8_paper_256 rfl (lv_at hl 0 rfl) ?_
                          refine va_get (D := D) (ci := 8) (v := .ref (mA 16)) (C := RX8) (T := TX8) (N := 44) hx hb hts inX8 hown hK hP 10 rfl rfl 16 (by decide) fl43 (fun _ h9 => h9) rfl dX8_paper_257 ?_
                          refine lv_aload_n hx hb dX8_paper_260 rfl (lv_at hl 0 rfl) ?_
                          refine va_get (D := D) (ci := 8) (v := .int (nI np)) (C := RX8) (T := TX8) (N := 44) hx hb hts inX8 hown hK hP 10 rfl rfl 6 (by decide) fl101 (fun _ h9 => h9) rfl dX8_paper_261 ?_
                          refine lv_iload hx hb dX8_paper_264 (lv_at hl 5 rfl) ?_
                          refine m_zast (k := np) (x := cp) hx hb hK hP hD hS 5 1 rfl rfl (hz) (by omega) (by decide) dX8_paper_266 (fun H locs hP hD hS => ?_)
                          have hP : va_P D vwCl [ar cI (mA 9) 40 (upd fTD np a), ar cI (mA 10) 40 (upd fTC np b), ar cI (mA 12) 40 (upd fTK np x), ar cI (mA 11) 40 (upd fTR np z), ar cI (mA 15) 40 (upd fDY np td), ar cZ (mA 16) 40 (upd fCP np cp), ar cI (mA 7) 40 (upd fDB np a), ar cI (mA 8) 40 (upd fCR np b), ar cI (mA 13) 40 (upd fRK np z), ar cI (mA 14) 40 (upd fLF np x), mo aM mA (nI nt) 0 td (nI nm) (nI np) isd ln rf rp sz nx kd wh pl rd rn ic mcm mcp mcr] H := hP
                          have hD : va_D A [ar cI (mA 9) 40 (upd fTD np a), ar cI (mA 10) 40 (upd fTC np b), ar cI (mA 12) 40 (upd fTK np x), ar cI (mA 11) 40 (upd fTR np z), ar cI (mA 15) 40 (upd fDY np td), ar cZ (mA 16) 40 (upd fCP np cp), ar cI (mA 7) 40 (upd fDB np a), ar cI (mA 8) 40 (upd fCR np b), ar cI (mA 13) 40 (upd fRK np z), ar cI (mA 14) 40 (upd fLF np x), mo aM mA (nI nt) 0 td (nI nm) (nI np) isd ln rf rp sz nx kd wh pl rd rn ic mcm mcp mcr] := hD
                          refine lv_aload_n hx hb dX8_paper_267 rfl (lv_at hl 0 rfl) ?_
                          refine lv_dup hx hb dX8_paper_268 rfl ?_
                          refine va_get (D := D) (ci := 8) (v := .int (nI np)) (C := RX8) (T := TX8) (N := 44) hx hb hts inX8 hown hK hP 10 rfl rfl 6 (by decide) fl101 (fun _ h9 => h9) rfl dX8_paper_269 ?_
                          refine lv_iconst (v := 1) hx hb dX8_paper_272 (by decide) ?_
                          refine m_iaddN (a := np) (b := 1) hx hb dX8_paper_273 ?_
                          refine va_put (D := D) (ci := 8) (v := .int (nI (np + 1))) (ty := .int) (C := RX8) (T := TX8) (N := 44) hx hb hts inX8 tyX8 tyX8_ok nmX8 hown hK hP hD hS 10 rfl rfl 6 (by decide) fl101 (fun _ h9 => h9) rfl (by decide +kernel) (rfl) (rfl) (Nat.le_of_ble_eq_true rfl) dX8_paper_274 (fun H locs hP hD hS => ?_)
                          have hP : va_P D vwCl [ar cI (mA 9) 40 (upd fTD np a), ar cI (mA 10) 40 (upd fTC np b), ar cI (mA 12) 40 (upd fTK np x), ar cI (mA 11) 40 (upd fTR np z), ar cI (mA 15) 40 (upd fDY np td), ar cZ (mA 16) 40 (upd fCP np cp), ar cI (mA 7) 40 (upd fDB np a), ar cI (mA 8) 40 (upd fCR np b), ar cI (mA 13) 40 (upd fRK np z), ar cI (mA 14) 40 (upd fLF np x), mo aM mA (nI nt) 0 td (nI nm) (nI (np + 1)) isd ln rf rp sz nx kd wh pl rd rn ic mcm mcp mcr] H := hP
                          have hD : va_D A [ar cI (mA 9) 40 (upd fTD np a), ar cI (mA 10) 40 (upd fTC np b), ar cI (mA 12) 40 (upd fTK np x), ar cI (mA 11) 40 (upd fTR np z), ar cI (mA 15) 40 (upd fDY np td), ar cZ (mA 16) 40 (upd fCP np cp), ar cI (mA 7) 40 (upd fDB np a), ar cI (mA 8) 40 (upd fCR np b), ar cI (mA 13) 40 (upd fRK np z), ar cI (mA 14) 40 (upd fLF np x), mo aM mA (nI nt) 0 td (nI nm) (nI (np + 1)) isd ln rf rp sz nx kd wh pl rd rn ic mcm mcp mcr] := hD
                          refine lv_aload_n hx hb dX8_paper_277 rfl (lv_at hl 0 rfl) ?_
                          refine va_get (D := D) (ci := 8) (v := .int (nI (np + 1))) (C := RX8) (T := TX8) (N := 44) hx hb hts inX8 hown hK hP 10 rfl rfl 6 (by decide) fl101 (fun _ h9 => h9) rfl dX8_paper_278 ?_
                          refine lv_iconst (v := 1) hx hb dX8_paper_281 (by decide) ?_
                          refine lv_isub hx hb dX8_paper_282 ?_
                          exact ret ((nI (np + 1)) - 1) ((upd fTD np a), (upd fTC np b), (upd fTK np x), (upd fTR np z), (upd fDY np td), (upd fCP np cp), (upd fDB np a), (upd fCR np b), (upd fRK np z), (upd fLF np x), (np + 1)) _ _ _ _ dX8_paper_283 (by have e : k = np := (by omega); subst e; have m1 := man_in hq_7 c_10; have m2 := man_in hq_15 c_18; exact Or.inl ⟨⟨m1, m2, c_23, by grind, by grind, by grind, by grind⟩, by omega, nI_pred k, rfl, rfl, rfl, rfl, rfl, rfl, by rw [hc], rfl, rfl, rfl, by congr 1; grind⟩) (hP.sub [10, 0, 1, 2, 3, 4, 5, 6, 7, 8, 9] rfl) (hD.sub [10, 0, 1, 2, 3, 4, 5, 6, 7, 8, 9] (by decide) rfl) hS
                        · skip
                          refine lv_iconst (v := 0) hx hb dX8_paper_237 (by decide) ?_
                          refine lv_goto (tgt := 242) hx hb dX8_paper_238 (by decide) ?_
                          refine m_iast (k := np) (x := 0) hx hb hK hP hD hS 9 0 rfl rfl (by omega) (by decide) dX8_paper_242 (fun H locs hP hD hS => ?_)
                          have hP : va_P D vwCl [ar cI (mA 9) 40 (upd fTD np a), ar cI (mA 10) 40 (upd fTC np b), ar cI (mA 12) 40 (upd fTK np x), ar cI (mA 11) 40 (upd fTR np z), ar cI (mA 15) 40 fDY, ar cZ (mA 16) 40 fCP, ar cI (mA 7) 40 (upd fDB np a), ar cI (mA 8) 40 (upd fCR np b), ar cI (mA 13) 40 (upd fRK np z), ar cI (mA 14) 40 (upd fLF np 0), mo aM mA (nI nt) 0 td (nI nm) (nI np) isd ln rf rp sz nx kd wh pl rd rn ic mcm mcp mcr] H := hP
                          have hD : va_D A [ar cI (mA 9) 40 (upd fTD np a), ar cI (mA 10) 40 (upd fTC np b), ar cI (mA 12) 40 (upd fTK np x), ar cI (mA 11) 40 (upd fTR np z), ar cI (mA 15) 40 fDY, ar cZ (mA 16) 40 fCP, ar cI (mA 7) 40 (upd fDB np a), ar cI (mA 8) 40 (upd fCR np b), ar cI (mA 13) 40 (upd fRK np z), ar cI (mA 14) 40 (upd fLF np 0), mo aM mA (nI nt) 0 td (nI nm) (nI np) isd ln rf rp sz nx kd wh pl rd rn ic mcm mcp mcr] := hD
                          refine lv_aload_n hx hb dX8_paper_243 rfl (lv_at hl 0 rfl) ?_
                          refine va_get (D := D) (ci := 8) (v := .ref (mA 15)) (C := RX8) (T := TX8) (N := 44) hx hb hts inX8 hown hK hP 10 rfl rfl 15 (by decide) fl40 (fun _ h9 => h9) rfl dX8_paper_244 ?_
                          refine lv_aload_n hx hb dX8_paper_247 rfl (lv_at hl 0 rfl) ?_
                          refine va_get (D := D) (ci := 8) (v := .int (nI np)) (C := RX8) (T := TX8) (N := 44) hx hb hts inX8 hown hK hP 10 rfl rfl 6 (by decide) fl101 (fun _ h9 => h9) rfl dX8_paper_248 ?_
                          refine lv_aload_n hx hb dX8_paper_251 rfl (lv_at hl 0 rfl) ?_
                          refine va_get (D := D) (ci := 8) (v := .int td) (C := RX8) (T := TX8) (N := 44) hx hb hts inX8 hown hK hP 10 rfl rfl 3 (by decide) fl104 (fun _ h9 => h9) rfl dX8_paper_252 ?_
                          refine m_iast (k := np) (x := td) hx hb hK hP hD hS 4 0 rfl rfl (by omega) (by decide) dX8_paper_255 (fun H locs hP hD hS => ?_)
                          have hP : va_P D vwCl [ar cI (mA 9) 40 (upd fTD np a), ar cI (mA 10) 40 (upd fTC np b), ar cI (mA 12) 40 (upd fTK np x), ar cI (mA 11) 40 (upd fTR np z), ar cI (mA 15) 40 (upd fDY np td), ar cZ (mA 16) 40 fCP, ar cI (mA 7) 40 (upd fDB np a), ar cI (mA 8) 40 (upd fCR np b), ar cI (mA 13) 40 (upd fRK np z), ar cI (mA 14) 40 (upd fLF np 0), mo aM mA (nI nt) 0 td (nI nm) (nI np) isd ln rf rp sz nx kd wh pl rd rn ic mcm mcp mcr] H := hP
                          have hD : va_D A [ar cI (mA 9) 40 (upd fTD np a), ar cI (mA 10) 40 (upd fTC np b), ar cI (mA 12) 40 (upd fTK np x), ar cI (mA 11) 40 (upd fTR np z), ar cI (mA 15) 40 (upd fDY np td), ar cZ (mA 16) 40 fCP, ar cI (mA 7) 40 (upd fDB np a), ar cI (mA 8) 40 (upd fCR np b), ar cI (mA 13) 40 (upd fRK np z), ar cI (mA 14) 40 (upd fLF np 0), mo aM mA (nI nt) 0 td (nI nm) (nI np) isd ln rf rp sz nx kd wh pl rd rn ic mcm mcp mcr] := hD
                          refine lv_aload_n hx hb dX8_paper_256 rfl (lv_at hl 0 rfl) ?_
                          refine va_get (D := D) (ci := 8) (v := .ref (mA 16)) (C := RX8) (T := TX8) (N := 44) hx hb hts inX8 hown hK hP 10 rfl rfl 16 (by decide) fl43 (fun _ h9 => h9) rfl dX8_paper_257 ?_
                          refine lv_aload_n hx hb dX8_paper_260 rfl (lv_at hl 0 rfl) ?_
                          refine va_get (D := D) (ci := 8) (v := .int (nI np)) (C := RX8) (T := TX8) (N := 44) hx hb hts inX8 hown hK hP 10 rfl rfl 6 (by decide) fl101 (fun _ h9 => h9) rfl dX8_paper_261 ?_
                          refine lv_iload hx hb dX8_paper_264 (lv_at hl 5 rfl) ?_
                          refine m_zast (k := np) (x := cp) hx hb hK hP hD hS 5 1 rfl rfl (hz) (by omega) (by decide) dX8_paper_266 (fun H locs hP hD hS => ?_)
                          have hP : va_P D vwCl [ar cI (mA 9) 40 (upd fTD np a), ar cI (mA 10) 40 (upd fTC np b), ar cI (mA 12) 40 (upd fTK np x), ar cI (mA 11) 40 (upd fTR np z), ar cI (mA 15) 40 (upd fDY np td), ar cZ (mA 16) 40 (upd fCP np cp), ar cI (mA 7) 40 (upd fDB np a), ar cI (mA 8) 40 (upd fCR np b), ar cI (mA 13) 40 (upd fRK np z), ar cI (mA 14) 40 (upd fLF np 0), mo aM mA (nI nt) 0 td (nI nm) (nI np) isd ln rf rp sz nx kd wh pl rd rn ic mcm mcp mcr] H := hP
                          have hD : va_D A [ar cI (mA 9) 40 (upd fTD np a), ar cI (mA 10) 40 (upd fTC np b), ar cI (mA 12) 40 (upd fTK np x), ar cI (mA 11) 40 (upd fTR np z), ar cI (mA 15) 40 (upd fDY np td), ar cZ (mA 16) 40 (upd fCP np cp), ar cI (mA 7) 40 (upd fDB np a), ar cI (mA 8) 40 (upd fCR np b), ar cI (mA 13) 40 (upd fRK np z), ar cI (mA 14) 40 (upd fLF np 0), mo aM mA (nI nt) 0 td (nI nm) (nI np) isd ln rf rp sz nx kd wh pl rd rn ic mcm mcp mcr] := hD
                          refine lv_aload_n hx hb dX8_paper_267 rfl (lv_at hl 0 rfl) ?_
                          refine lv_dup hx hb dX8_paper_268 rfl ?_
                          refine va_get (D := D) (ci := 8) (v := .int (nI np)) (C := RX8) (T := TX8) (N := 44) hx hb hts inX8 hown hK hP 10 rfl rfl 6 (by decide) fl101 (fun _ h9 => h9) rfl dX8_paper_269 ?_
                          refine lv_iconst (v := 1) hx hb dX8_paper_272 (by decide) ?_
                          refine m_iaddN (a := np) (b := 1) hx hb dX8_paper_273 ?_
                          refine va_put (D := D) (ci := 8) (v := .int (nI (np + 1))) (ty := .int) (C := RX8) (T := TX8) (N := 44) hx hb hts inX8 tyX8 tyX8_ok nmX8 hown hK hP hD hS 10 rfl rfl 6 (by decide) fl101 (fun _ h9 => h9) rfl (by decide +kernel) (rfl) (rfl) (Nat.le_of_ble_eq_true rfl) dX8_paper_274 (fun H locs hP hD hS => ?_)
                          have hP : va_P D vwCl [ar cI (mA 9) 40 (upd fTD np a), ar cI (mA 10) 40 (upd fTC np b), ar cI (mA 12) 40 (upd fTK np x), ar cI (mA 11) 40 (upd fTR np z), ar cI (mA 15) 40 (upd fDY np td), ar cZ (mA 16) 40 (upd fCP np cp), ar cI (mA 7) 40 (upd fDB np a), ar cI (mA 8) 40 (upd fCR np b), ar cI (mA 13) 40 (upd fRK np z), ar cI (mA 14) 40 (upd fLF np 0), mo aM mA (nI nt) 0 td (nI nm) (nI (np + 1)) isd ln rf rp sz nx kd wh pl rd rn ic mcm mcp mcr] H := hP
                          have hD : va_D A [ar cI (mA 9) 40 (upd fTD np a), ar cI (mA 10) 40 (upd fTC np b), ar cI (mA 12) 40 (upd fTK np x), ar cI (mA 11) 40 (upd fTR np z), ar cI (mA 15) 40 (upd fDY np td), ar cZ (mA 16) 40 (upd fCP np cp), ar cI (mA 7) 40 (upd fDB np a), ar cI (mA 8) 40 (upd fCR np b), ar cI (mA 13) 40 (upd fRK np z), ar cI (mA 14) 40 (upd fLF np 0), mo aM mA (nI nt) 0 td (nI nm) (nI (np + 1)) isd ln rf rp sz nx kd wh pl rd rn ic mcm mcp mcr] := hD
                          refine lv_aload_n hx hb dX8_paper_277 rfl (lv_at hl 0 rfl) ?_
                          refine va_get (D := D) (ci := 8) (v := .int (nI (np + 1))) (C := RX8) (T := TX8) (N := 44) hx hb hts inX8 hown hK hP 10 rfl rfl 6 (by decide) fl101 (fun _ h9 => h9) rfl dX8_paper_278 ?_
                          refine lv_iconst (v := 1) hx hb dX8_paper_281 (by decide) ?_
                          refine lv_isub hx hb dX8_paper_282 ?_
                          exact ret ((nI (np + 1)) - 1) ((upd fTD np a), (upd fTC np b), (upd fTK np x), (upd fTR np z), (upd fDY np td), (upd fCP np cp), (upd fDB np a), (upd fCR np b), (upd fRK np z), (upd fLF np 0), (np + 1)) _ _ _ _ dX8_paper_283 (by have e : k = np := (by omega); subst e; have m1 := man_in hq_7 c_10; have m2 := man_in hq_15 c_18; exact Or.inl ⟨⟨m1, m2, c_23, by grind, by grind, by grind, by grind⟩, by omega, nI_pred k, rfl, rfl, rfl, rfl, rfl, rfl, by rw [hc], rfl, rfl, rfl, by congr 1; grind⟩) (hP.sub [10, 0, 1, 2, 3, 4, 5, 6, 7, 8, 9] rfl) (hD.sub [10, 0, 1, 2, 3, 4, 5, 6, 7, 8, 9] (by decide) rfl) hS
                      · skip
                        have k_72 : ¬ np ≤ k := fun h9 => c_72 ((nI_leI (a := np) (b := k) (by omega) (by omega)).mpr h9)
                        refine lv_iload hx hb dX8_paper_75 (lv_at hl 5 rfl) ?_
                        refine lv_if_ne (tgt := 139) hx hb dX8_paper_77 (by decide) (fun c_77 => ?_) (fun c_77 => ?_)
                        · skip
                          refine lv_iconst (v := 1) hx hb dX8_paper_139 (by decide) ?_
                          refine lv_goto (tgt := 144) hx hb dX8_paper_140 (by decide) ?_
                          refine lv_istore (lv' := [(5, .int 1), (0, .ref aM), (1, .int a), (2, .int b), (3, .int x), (4, .int z), (6, .int (nI k))]) hx hb dX8_paper_144 hl (by decide) rfl (fun ls hl => ?_)
                          refine lv_iinc (v := (nI (k + 1))) (lv' := [(6, .int (nI (k + 1))), (5, .int 1), (0, .ref aM), (1, .int a), (2, .int b), (3, .int x), (4, .int z)]) hx hb dX8_paper_146 hl (k := 6) rfl (nI_inc k 1 (by decide)) (by decide) rfl (fun ls hl => ?_)
                          refine lv_goto (tgt := 66) hx hb dX8_paper_149 (by decide) ?_
                          exact ih_66 (k + 1) 1 (by omega) (by omega) (by simp only [told]; grind) _ _ (hP) (hD) hS ls (lv_sub hl [2, 3, 4, 5, 6, 1, 0] rfl)
                        · skip
                          refine lv_aload_n hx hb dX8_paper_80 rfl (lv_at hl 0 rfl) ?_
                          refine va_get (D := D) (ci := 8) (v := .ref (mA 9)) (C := RX8) (T := TX8) (N := 44) hx hb hts inX8 hown hK hP 10 rfl rfl 9 (by decide) fl22 (fun _ h9 => h9) rfl dX8_paper_81 ?_
                          refine lv_iload hx hb dX8_paper_84 (lv_at hl 6 rfl) ?_
                          refine m_iald (k := k) hx hb hK hP 0 0 rfl rfl (by omega) (by decide) dX8_paper_86 ?_
                          refine lv_iload_n hx hb dX8_paper_87 rfl (lv_at hl 1 rfl) ?_
                          refine lv_icmp_ne (tgt := 143) hx hb dX8_paper_88 (by decide) (fun c_88 => ?_) (fun c_88 => ?_)
                          · skip
                            refine lv_iconst (v := 0) hx hb dX8_paper_143 (by decide) ?_
                            refine lv_istore (lv' := [(5, .int 0), (0, .ref aM), (1, .int a), (2, .int b), (3, .int x), (4, .int z), (6, .int (nI k))]) hx hb dX8_paper_144 hl (by decide) rfl (fun ls hl => ?_)
                            refine lv_iinc (v := (nI (k + 1))) (lv' := [(6, .int (nI (k + 1))), (5, .int 0), (0, .ref aM), (1, .int a), (2, .int b), (3, .int x), (4, .int z)]) hx hb dX8_paper_146 hl (k := 6) rfl (nI_inc k 1 (by decide)) (by decide) rfl (fun ls hl => ?_)
                            refine lv_goto (tgt := 66) hx hb dX8_paper_149 (by decide) ?_
                            exact ih_66 (k + 1) 0 (by omega) (by omega) (by simp only [told]; grind) _ _ (hP) (hD) hS ls (lv_sub hl [2, 3, 4, 5, 6, 1, 0] rfl)
                          · skip
                            refine lv_aload_n hx hb dX8_paper_91 rfl (lv_at hl 0 rfl) ?_
                            refine va_get (D := D) (ci := 8) (v := .ref (mA 10)) (C := RX8) (T := TX8) (N := 44) hx hb hts inX8 hown hK hP 10 rfl rfl 10 (by decide) fl25 (fun _ h9 => h9) rfl dX8_paper_92 ?_
                            refine lv_iload hx hb dX8_paper_95 (lv_at hl 6 rfl) ?_
                            refine m_iald (k := k) hx hb hK hP 1 0 rfl rfl (by omega) (by decide) dX8_paper_97 ?_
                            refine lv_iload_n hx hb dX8_paper_98 rfl (lv_at hl 2 rfl) ?_
                            refine lv_icmp_ne (tgt := 143) hx hb dX8_paper_99 (by decide) (fun c_99 => ?_) (fun c_99 => ?_)
                            · skip
                              refine lv_iconst (v := 0) hx hb dX8_paper_143 (by decide) ?_
                              refine lv_istore (lv' := [(5, .int 0), (0, .ref aM), (1, .int a), (2, .int b), (3, .int x), (4, .int z), (6, .int (nI k))]) hx hb dX8_paper_144 hl (by decide) rfl (fun ls hl => ?_)
                              refine lv_iinc (v := (nI (k + 1))) (lv' := [(6, .int (nI (k + 1))), (5, .int 0), (0, .ref aM), (1, .int a), (2, .int b), (3, .int x), (4, .int z)]) hx hb dX8_paper_146 hl (k := 6) rfl (nI_inc k 1 (by decide)) (by decide) rfl (fun ls hl => ?_)
                              refine lv_goto (tgt := 66) hx hb dX8_paper_149 (by decide) ?_
                              exact ih_66 (k + 1) 0 (by omega) (by omega) (by simp only [told]; grind) _ _ (hP) (hD) hS ls (lv_sub hl [2, 3, 4, 5, 6, 1, 0] rfl)
                            · skip
                              refine lv_aload_n hx hb dX8_paper_102 rfl (lv_at hl 0 rfl) ?_
                              refine va_get (D := D) (ci := 8) (v := .ref (mA 12)) (C := RX8) (T := TX8) (N := 44) hx hb hts inX8 hown hK hP 10 rfl rfl 12 (by decide) fl31 (fun _ h9 => h9) rfl dX8_paper_103 ?_
                              refine lv_iload hx hb dX8_paper_106 (lv_at hl 6 rfl) ?_
                              refine m_iald (k := k) hx hb hK hP 2 0 rfl rfl (by omega) (by decide) dX8_paper_108 ?_
                              refine lv_iload_n hx hb dX8_paper_109 rfl (lv_at hl 3 rfl) ?_
                              refine lv_icmp_ne (tgt := 143) hx hb dX8_paper_110 (by decide) (fun c_110 => ?_) (fun c_110 => ?_)
                              · skip
                                refine lv_iconst (v := 0) hx hb dX8_paper_143 (by decide) ?_
                                refine lv_istore (lv' := [(5, .int 0), (0, .ref aM), (1, .int a), (2, .int b), (3, .int x), (4, .int z), (6, .int (nI k))]) hx hb dX8_paper_144 hl (by decide) rfl (fun ls hl => ?_)
                                refine lv_iinc (v := (nI (k + 1))) (lv' := [(6, .int (nI (k + 1))), (5, .int 0), (0, .ref aM), (1, .int a), (2, .int b), (3, .int x), (4, .int z)]) hx hb dX8_paper_146 hl (k := 6) rfl (nI_inc k 1 (by decide)) (by decide) rfl (fun ls hl => ?_)
                                refine lv_goto (tgt := 66) hx hb dX8_paper_149 (by decide) ?_
                                exact ih_66 (k + 1) 0 (by omega) (by omega) (by simp only [told]; grind) _ _ (hP) (hD) hS ls (lv_sub hl [2, 3, 4, 5, 6, 1, 0] rfl)
                              · skip
                                refine lv_aload_n hx hb dX8_paper_113 rfl (lv_at hl 0 rfl) ?_
                                refine va_get (D := D) (ci := 8) (v := .ref (mA 11)) (C := RX8) (T := TX8) (N := 44) hx hb hts inX8 hown hK hP 10 rfl rfl 11 (by decide) fl28 (fun _ h9 => h9) rfl dX8_paper_114 ?_
                                refine lv_iload hx hb dX8_paper_117 (lv_at hl 6 rfl) ?_
                                refine m_iald (k := k) hx hb hK hP 3 0 rfl rfl (by omega) (by decide) dX8_paper_119 ?_
                                refine lv_iload hx hb dX8_paper_120 (lv_at hl 4 rfl) ?_
                                refine lv_icmp_ne (tgt := 143) hx hb dX8_paper_122 (by decide) (fun c_122 => ?_) (fun c_122 => ?_)
                                · skip
                                  refine lv_iconst (v := 0) hx hb dX8_paper_143 (by decide) ?_
                                  refine lv_istore (lv' := [(5, .int 0), (0, .ref aM), (1, .int a), (2, .int b), (3, .int x), (4, .int z), (6, .int (nI k))]) hx hb dX8_paper_144 hl (by decide) rfl (fun ls hl => ?_)
                                  refine lv_iinc (v := (nI (k + 1))) (lv' := [(6, .int (nI (k + 1))), (5, .int 0), (0, .ref aM), (1, .int a), (2, .int b), (3, .int x), (4, .int z)]) hx hb dX8_paper_146 hl (k := 6) rfl (nI_inc k 1 (by decide)) (by decide) rfl (fun ls hl => ?_)
                                  refine lv_goto (tgt := 66) hx hb dX8_paper_149 (by decide) ?_
                                  exact ih_66 (k + 1) 0 (by omega) (by omega) (by simp only [told]; grind) _ _ (hP) (hD) hS ls (lv_sub hl [2, 3, 4, 5, 6, 1, 0] rfl)
                                · skip
                                  refine lv_aload_n hx hb dX8_paper_125 rfl (lv_at hl 0 rfl) ?_
                                  refine va_get (D := D) (ci := 8) (v := .ref (mA 15)) (C := RX8) (T := TX8) (N := 44) hx hb hts inX8 hown hK hP 10 rfl rfl 15 (by decide) fl40 (fun _ h9 => h9) rfl dX8_paper_126 ?_
                                  refine lv_iload hx hb dX8_paper_129 (lv_at hl 6 rfl) ?_
                                  refine m_iald (k := k) hx hb hK hP 4 0 rfl rfl (by omega) (by decide) dX8_paper_131 ?_
                                  refine lv_aload_n hx hb dX8_paper_132 rfl (lv_at hl 0 rfl) ?_
                                  refine va_get (D := D) (ci := 8) (v := .int td) (C := RX8) (T := TX8) (N := 44) hx hb hts inX8 hown hK hP 10 rfl rfl 3 (by decide) fl104 (fun _ h9 => h9) rfl dX8_paper_133 ?_
                                  refine lv_icmp_ne (tgt := 143) hx hb dX8_paper_136 (by decide) (fun c_136 => ?_) (fun c_136 => ?_)
                                  · skip
                                    refine lv_iconst (v := 0) hx hb dX8_paper_143 (by decide) ?_
                                    refine lv_istore (lv' := [(5, .int 0), (0, .ref aM), (1, .int a), (2, .int b), (3, .int x), (4, .int z), (6, .int (nI k))]) hx hb dX8_paper_144 hl (by decide) rfl (fun ls hl => ?_)
                                    refine lv_iinc (v := (nI (k + 1))) (lv' := [(6, .int (nI (k + 1))), (5, .int 0), (0, .ref aM), (1, .int a), (2, .int b), (3, .int x), (4, .int z)]) hx hb dX8_paper_146 hl (k := 6) rfl (nI_inc k 1 (by decide)) (by decide) rfl (fun ls hl => ?_)
                                    refine lv_goto (tgt := 66) hx hb dX8_paper_149 (by decide) ?_
                                    exact ih_66 (k + 1) 0 (by omega) (by omega) (by simp only [told]; grind) _ _ (hP) (hD) hS ls (lv_sub hl [2, 3, 4, 5, 6, 1, 0] rfl)
                                  · skip
                                    refine lv_iconst (v := 1) hx hb dX8_paper_139 (by decide) ?_
                                    refine lv_goto (tgt := 144) hx hb dX8_paper_140 (by decide) ?_
                                    refine lv_istore (lv' := [(5, .int 1), (0, .ref aM), (1, .int a), (2, .int b), (3, .int x), (4, .int z), (6, .int (nI k))]) hx hb dX8_paper_144 hl (by decide) rfl (fun ls hl => ?_)
                                    refine lv_iinc (v := (nI (k + 1))) (lv' := [(6, .int (nI (k + 1))), (5, .int 1), (0, .ref aM), (1, .int a), (2, .int b), (3, .int x), (4, .int z)]) hx hb dX8_paper_146 hl (k := 6) rfl (nI_inc k 1 (by decide)) (by decide) rfl (fun ls hl => ?_)
                                    refine lv_goto (tgt := 66) hx hb dX8_paper_149 (by decide) ?_
                                    exact ih_66 (k + 1) 1 (by omega) (by omega) (by simp only [told]; grind) _ _ (hP) (hD) hS ls (lv_sub hl [2, 3, 4, 5, 6, 1, 0] rfl)
                  exact L_66 ((np - 0) + 1) 0 0 (Nat.lt_succ_self _) (by omega) (rfl) _ _ (hP) (hD) hS ls (lv_sub hl [2, 3, 4, 5, 6, 1, 0] rfl)
                · skip
                  have k_55 : np = 40 := (nI_eq (a := np) (b := 40) (by omega) (by omega)).mp c_55
                  refine lv_iconst (v := (-1)) hx hb dX8_paper_58 (by decide) ?_
                  exact ret (-1) (fTD, fTC, fTK, fTR, fDY, fCP, fDB, fCR, fRK, fLF, np) _ _ _ _ dX8_paper_59 (Or.inr ⟨fun q => by first | exact man_not hq_7 c_10 q.1.1 | exact man_not hq_15 c_18 q.1.2.1 | (obtain ⟨⟨q1, q2, q3, q4, q5, q6, q7⟩, q8⟩ := q; first | exact q3 c_23 | omega | grind), rfl, rfl, rfl, rfl, rfl, rfl, rfl, rfl, rfl, rfl, rfl, rfl⟩) (hP.sub [10, 0, 1, 2, 3, 4, 5, 6, 7, 8, 9] rfl) (hD.sub [10, 0, 1, 2, 3, 4, 5, 6, 7, 8, 9] (by decide) rfl) hS
abbrev r_c_X8_look : Room := { frames := 1, cells := 0, slots := 0, locals := 21 }
set_option maxHeartbeats 4000000 in
set_option maxRecDepth 100000 in
theorem c_X8_look (l : Launch) (D : va_G) (cI cZ : ClassId) (aM : Nat) (mA : Nat → Nat) (nt : Nat) (th : Int32) (td : Int32) (nm : Nat) (np : Nat) (isd : Int32) (ln : Int32) (rf : Int32) (rp : Int32) (sz : Int32) (nx : Int32) (kd : Int32) (wh : Int32) (pl : Int32) (rd : Int32) (rn : Int32) (ic : Int32) (mcm : Int32) (mcp : Int32) (mcr : Int32) (fDB : Nat → Int32) (fCR : Nat → Int32) (fTK : Nat → Int32) (fRK : Nat → Int32) (fLF : Nat → Int32) (fDY : Nat → Int32) (fCP : Nat → Int32) (p0 : Int32) (x : Int32) (hnp : np ≤ 40) : MI l yX8_look wsX8_look r_c_X8_look D cI cZ [.ref aM, .int p0, .int x] [mo aM mA (nI nt) th td (nI nm) (nI np) isd ln rf rp sz nx kd wh pl rd rn ic mcm mcp mcr, ar cI (mA 7) 40 fDB, ar cI (mA 8) 40 fCR, ar cI (mA 12) 40 fTK, ar cI (mA 13) 40 fRK, ar cI (mA 14) 40 fLF, ar cI (mA 15) 40 fDY, ar cZ (mA 16) 40 fCP] (fun (r : Int32) (u : Int32) => ((0 ≤ p0 ∧ p0 < nI np) ∧ (0 ≤ x ∧ x ≤ 6) ∧ u = 0 ∧ r = tellS fDB fCR fTK fRK fLF fDY fCP (ix p0) x) ∨ ((0 ≤ p0 ∧ p0 < nI np) ∧ ¬ (0 ≤ x ∧ x ≤ 6) ∧ u = 2) ∨ (¬ (0 ≤ p0 ∧ p0 < nI np) ∧ u = 1)) (fun (u : Int32) => [mo aM mA (nI nt) u td (nI nm) (nI np) isd ln rf rp sz nx kd wh pl rd rn ic mcm mcp mcr, ar cI (mA 7) 40 fDB, ar cI (mA 8) 40 fCR, ar cI (mA 12) 40 fTK, ar cI (mA 13) 40 fRK, ar cI (mA 14) 40 fLF, ar cI (mA 15) 40 fDY, ar cZ (mA 16) 40 fCP]) 0 0 := by
  refine MI.of (cc := cX8_look) (maxL := 3) (by decide) rfl (Nat.le_of_ble_eq_true rfl) ?_
  intro p e s m below meth c A Q hx hb hml hown hts hN hK hA ret hP hD hS ls hl
  have hown : s.vm.findClass RX8 = some m.cls := hown
  have inX8 : ∀ w ∈ wsX80, w ∈ wsX8_look := by decide +kernel
  have fl16 := hts (.fieldLink RX8 16 "AdvanceBookModel" "debtor" "[I") (by decide +kernel)
  have fl19 := hts (.fieldLink RX8 19 "AdvanceBookModel" "creditor" "[I") (by decide +kernel)
  have fl31 := hts (.fieldLink RX8 31 "AdvanceBookModel" "coins" "[I") (by decide +kernel)
  have fl34 := hts (.fieldLink RX8 34 "AdvanceBookModel" "rank" "[I") (by decide +kernel)
  have fl37 := hts (.fieldLink RX8 37 "AdvanceBookModel" "left" "[I") (by decide +kernel)
  have fl40 := hts (.fieldLink RX8 40 "AdvanceBookModel" "day" "[I") (by decide +kernel)
  have fl43 := hts (.fieldLink RX8 43 "AdvanceBookModel" "isCopy" "[Z") (by decide +kernel)
  have fl87 := hts (.fieldLink RX8 87 "AdvanceBookModel" "thrown" "I") (by decide +kernel)
  have fl101 := hts (.fieldLink RX8 101 "AdvanceBookModel" "papers" "I") (by decide +kernel)
  have hP : va_P D vwCl [mo aM mA (nI nt) th td (nI nm) (nI np) isd ln rf rp sz nx kd wh pl rd rn ic mcm mcp mcr, ar cI (mA 7) 40 fDB, ar cI (mA 8) 40 fCR, ar cI (mA 12) 40 fTK, ar cI (mA 13) 40 fRK, ar cI (mA 14) 40 fLF, ar cI (mA 15) 40 fDY, ar cZ (mA 16) 40 fCP] s.heap := hP
  have hD : va_D A [mo aM mA (nI nt) th td (nI nm) (nI np) isd ln rf rp sz nx kd wh pl rd rn ic mcm mcp mcr, ar cI (mA 7) 40 fDB, ar cI (mA 8) 40 fCR, ar cI (mA 12) 40 fTK, ar cI (mA 13) 40 fRK, ar cI (mA 14) 40 fLF, ar cI (mA 15) 40 fDY, ar cZ (mA 16) 40 fCP] := hD
  have hl : lv_has ls 3 [(0, .ref aM), (1, .int p0), (2, .int x)] := hl
  refine lv_aload_n hx hb dX8_look_0 rfl (lv_at hl 0 rfl) ?_
  refine lv_iconst (v := 0) hx hb dX8_look_1 (by decide) ?_
  refine va_put (D := D) (ci := 8) (v := .int 0) (ty := .int) (C := RX8) (T := TX8) (N := 44) hx hb hts inX8 tyX8 tyX8_ok nmX8 hown hK hP hD hS 0 rfl rfl 2 (by decide) fl87 (fun _ h9 => h9) rfl (by decide +kernel) (rfl) (rfl) (Nat.le_of_ble_eq_true rfl) dX8_look_2 (fun H locs hP hD hS => ?_)
  have hP : va_P D vwCl [mo aM mA (nI nt) 0 td (nI nm) (nI np) isd ln rf rp sz nx kd wh pl rd rn ic mcm mcp mcr, ar cI (mA 7) 40 fDB, ar cI (mA 8) 40 fCR, ar cI (mA 12) 40 fTK, ar cI (mA 13) 40 fRK, ar cI (mA 14) 40 fLF, ar cI (mA 15) 40 fDY, ar cZ (mA 16) 40 fCP] H := hP
  have hD : va_D A [mo aM mA (nI nt) 0 td (nI nm) (nI np) isd ln rf rp sz nx kd wh pl rd rn ic mcm mcp mcr, ar cI (mA 7) 40 fDB, ar cI (mA 8) 40 fCR, ar cI (mA 12) 40 fTK, ar cI (mA 13) 40 fRK, ar cI (mA 14) 40 fLF, ar cI (mA 15) 40 fDY, ar cZ (mA 16) 40 fCP] := hD
  refine lv_iload_n hx hb dX8_look_5 rfl (lv_at hl 1 rfl) ?_
  refine lv_if_lt (tgt := 17) hx hb dX8_look_6 (by decide) (fun c_6 => ?_) (fun c_6 => ?_)
  · skip
    refine lv_aload_n hx hb dX8_look_17 rfl (lv_at hl 0 rfl) ?_
    refine lv_iconst (v := 1) hx hb dX8_look_18 (by decide) ?_
    refine m_cVi (As := [.int 1]) (rest := []) (wr := [ar cI (mA 7) 40 fDB, ar cI (mA 8) 40 fCR, ar cI (mA 12) 40 fTK, ar cI (mA 13) 40 fRK, ar cI (mA 14) 40 fLF, ar cI (mA 15) 40 fDY, ar cZ (mA 16) 40 fCP]) ⟨hx, hb, hml, hown, hts⟩ (c_X8_fails l D cI cZ aM mA nt 0 td nm np isd ln rf rp sz nx kd wh pl rd rn ic mcm mcp mcr 1 ) (cwV 1 hts gX8_look_X8_fails rfl rfl rfl (by decide +kernel) ⟨Nat.le_of_ble_eq_true rfl, Nat.le_of_ble_eq_true rfl⟩) hN hK hP hD hS hA [0] [1, 2, 3, 4, 5, 6, 7] rfl rfl (by decide) (by decide) (by decide) 0 (ci := 8) rfl rfl rfl rfl hl.1 rfl (Nat.le_of_ble_eq_true rfl) dX8_look_19 ⟨Nat.le_of_ble_eq_true rfl, Nat.le_of_ble_eq_true rfl⟩ (fun r_19 u_19 H locs hq_19 hP hD hS => ?_)
    have hq_19 : r_19 = 0 := hq_19
    have hP : va_P D vwCl [ar cI (mA 7) 40 fDB, ar cI (mA 8) 40 fCR, ar cI (mA 12) 40 fTK, ar cI (mA 13) 40 fRK, ar cI (mA 14) 40 fLF, ar cI (mA 15) 40 fDY, ar cZ (mA 16) 40 fCP, mo aM mA (nI nt) 1 td (nI nm) (nI np) isd ln rf rp sz nx kd wh pl rd rn ic mcm mcp mcr] H := hP
    have hD : va_D A [ar cI (mA 7) 40 fDB, ar cI (mA 8) 40 fCR, ar cI (mA 12) 40 fTK, ar cI (mA 13) 40 fRK, ar cI (mA 14) 40 fLF, ar cI (mA 15) 40 fDY, ar cZ (mA 16) 40 fCP, mo aM mA (nI nt) 1 td (nI nm) (nI np) isd ln rf rp sz nx kd wh pl rd rn ic mcm mcp mcr] := hD
    exact ret r_19 1 _ _ _ _ dX8_look_22 (Or.inr (Or.inr ⟨by grind, rfl⟩)) (hP.sub [7, 0, 1, 2, 3, 4, 5, 6] rfl) (hD.sub [7, 0, 1, 2, 3, 4, 5, 6] (by decide) rfl) hS
  · skip
    refine lv_iload_n hx hb dX8_look_9 rfl (lv_at hl 1 rfl) ?_
    refine lv_aload_n hx hb dX8_look_10 rfl (lv_at hl 0 rfl) ?_
    refine va_get (D := D) (ci := 8) (v := .int (nI np)) (C := RX8) (T := TX8) (N := 44) hx hb hts inX8 hown hK hP 0 rfl rfl 6 (by decide) fl101 (fun _ h9 => h9) rfl dX8_look_11 ?_
    refine lv_icmp_lt (tgt := 23) hx hb dX8_look_14 (by decide) (fun c_14 => ?_) (fun c_14 => ?_)
    · skip
      refine lv_iload_n hx hb dX8_look_23 rfl (lv_at hl 2 rfl) ?_
      by_cases e24_0 : x = 0
      · refine lv_tableIn (tgt := 68) hx hb dX8_look_24 (by rw [e24_0]; decide) (by rw [e24_0]; decide) (by rw [e24_0]; rfl) (by decide) ?_
        refine lv_aload_n hx hb dX8_look_68 rfl (lv_at hl 0 rfl) ?_
        refine va_get (D := D) (ci := 8) (v := .ref (mA 7)) (C := RX8) (T := TX8) (N := 44) hx hb hts inX8 hown hK hP 0 rfl rfl 7 (by decide) fl16 (fun _ h9 => h9) rfl dX8_look_69 ?_
        refine lv_iload_n hx hb dX8_look_72 rfl (lv_at hl 1 rfl) ?_
        refine va_iald hx hb hK hP 1 0 rfl rfl (vp_in_range c_6 c_14 hnp (by decide)) dX8_look_73 ?_
        exact ret (fDB (ix p0)) 0 _ _ _ _ dX8_look_74 (Or.inl ⟨⟨by grind, c_14⟩, by first | (rw [e24_0]; decide) | (rw [e24_1]; decide) | (rw [e24_2]; decide) | (rw [e24_3]; decide) | (rw [e24_4]; decide) | (rw [e24_5]; decide) | (rw [e24_6]; decide), rfl, by unfold tellS; simp [*]⟩) (hP) (hD) hS
      by_cases e24_1 : x = 1
      · refine lv_tableIn (tgt := 75) hx hb dX8_look_24 (by rw [e24_1]; decide) (by rw [e24_1]; decide) (by rw [e24_1]; rfl) (by decide) ?_
        refine lv_aload_n hx hb dX8_look_75 rfl (lv_at hl 0 rfl) ?_
        refine va_get (D := D) (ci := 8) (v := .ref (mA 8)) (C := RX8) (T := TX8) (N := 44) hx hb hts inX8 hown hK hP 0 rfl rfl 8 (by decide) fl19 (fun _ h9 => h9) rfl dX8_look_76 ?_
        refine lv_iload_n hx hb dX8_look_79 rfl (lv_at hl 1 rfl) ?_
        refine va_iald hx hb hK hP 2 0 rfl rfl (vp_in_range c_6 c_14 hnp (by decide)) dX8_look_80 ?_
        exact ret (fCR (ix p0)) 0 _ _ _ _ dX8_look_81 (Or.inl ⟨⟨by grind, c_14⟩, by first | (rw [e24_0]; decide) | (rw [e24_1]; decide) | (rw [e24_2]; decide) | (rw [e24_3]; decide) | (rw [e24_4]; decide) | (rw [e24_5]; decide) | (rw [e24_6]; decide), rfl, by unfold tellS; simp [*]⟩) (hP) (hD) hS
      by_cases e24_2 : x = 2
      · refine lv_tableIn (tgt := 82) hx hb dX8_look_24 (by rw [e24_2]; decide) (by rw [e24_2]; decide) (by rw [e24_2]; rfl) (by decide) ?_
        refine lv_aload_n hx hb dX8_look_82 rfl (lv_at hl 0 rfl) ?_
        refine va_get (D := D) (ci := 8) (v := .ref (mA 12)) (C := RX8) (T := TX8) (N := 44) hx hb hts inX8 hown hK hP 0 rfl rfl 12 (by decide) fl31 (fun _ h9 => h9) rfl dX8_look_83 ?_
        refine lv_iload_n hx hb dX8_look_86 rfl (lv_at hl 1 rfl) ?_
        refine va_iald hx hb hK hP 3 0 rfl rfl (vp_in_range c_6 c_14 hnp (by decide)) dX8_look_87 ?_
        exact ret (fTK (ix p0)) 0 _ _ _ _ dX8_look_88 (Or.inl ⟨⟨by grind, c_14⟩, by first | (rw [e24_0]; decide) | (rw [e24_1]; decide) | (rw [e24_2]; decide) | (rw [e24_3]; decide) | (rw [e24_4]; decide) | (rw [e24_5]; decide) | (rw [e24_6]; decide), rfl, by unfold tellS; simp [*]⟩) (hP) (hD) hS
      by_cases e24_3 : x = 3
      · refine lv_tableIn (tgt := 89) hx hb dX8_look_24 (by rw [e24_3]; decide) (by rw [e24_3]; decide) (by rw [e24_3]; rfl) (by decide) ?_
        refine lv_aload_n hx hb dX8_look_89 rfl (lv_at hl 0 rfl) ?_
        refine va_get (D := D) (ci := 8) (v := .ref (mA 13)) (C := RX8) (T := TX8) (N := 44) hx hb hts inX8 hown hK hP 0 rfl rfl 13 (by decide) fl34 (fun _ h9 => h9) rfl dX8_look_90 ?_
        refine lv_iload_n hx hb dX8_look_93 rfl (lv_at hl 1 rfl) ?_
        refine va_iald hx hb hK hP 4 0 rfl rfl (vp_in_range c_6 c_14 hnp (by decide)) dX8_look_94 ?_
        exact ret (fRK (ix p0)) 0 _ _ _ _ dX8_look_95 (Or.inl ⟨⟨by grind, c_14⟩, by first | (rw [e24_0]; decide) | (rw [e24_1]; decide) | (rw [e24_2]; decide) | (rw [e24_3]; decide) | (rw [e24_4]; decide) | (rw [e24_5]; decide) | (rw [e24_6]; decide), rfl, by unfold tellS; simp [*]⟩) (hP) (hD) hS
      by_cases e24_4 : x = 4
      · refine lv_tableIn (tgt := 96) hx hb dX8_look_24 (by rw [e24_4]; decide) (by rw [e24_4]; decide) (by rw [e24_4]; rfl) (by decide) ?_
        refine lv_aload_n hx hb dX8_look_96 rfl (lv_at hl 0 rfl) ?_
        refine va_get (D := D) (ci := 8) (v := .ref (mA 14)) (C := RX8) (T := TX8) (N := 44) hx hb hts inX8 hown hK hP 0 rfl rfl 14 (by decide) fl37 (fun _ h9 => h9) rfl dX8_look_97 ?_
        refine lv_iload_n hx hb dX8_look_100 rfl (lv_at hl 1 rfl) ?_
        refine va_iald hx hb hK hP 5 0 rfl rfl (vp_in_range c_6 c_14 hnp (by decide)) dX8_look_101 ?_
        exact ret (fLF (ix p0)) 0 _ _ _ _ dX8_look_102 (Or.inl ⟨⟨by grind, c_14⟩, by first | (rw [e24_0]; decide) | (rw [e24_1]; decide) | (rw [e24_2]; decide) | (rw [e24_3]; decide) | (rw [e24_4]; decide) | (rw [e24_5]; decide) | (rw [e24_6]; decide), rfl, by unfold tellS; simp [*]⟩) (hP) (hD) hS
      by_cases e24_5 : x = 5
      · refine lv_tableIn (tgt := 103) hx hb dX8_look_24 (by rw [e24_5]; decide) (by rw [e24_5]; decide) (by rw [e24_5]; rfl) (by decide) ?_
        refine lv_aload_n hx hb dX8_look_103 rfl (lv_at hl 0 rfl) ?_
        refine va_get (D := D) (ci := 8) (v := .ref (mA 15)) (C := RX8) (T := TX8) (N := 44) hx hb hts inX8 hown hK hP 0 rfl rfl 15 (by decide) fl40 (fun _ h9 => h9) rfl dX8_look_104 ?_
        refine lv_iload_n hx hb dX8_look_107 rfl (lv_at hl 1 rfl) ?_
        refine va_iald hx hb hK hP 6 0 rfl rfl (vp_in_range c_6 c_14 hnp (by decide)) dX8_look_108 ?_
        exact ret (fDY (ix p0)) 0 _ _ _ _ dX8_look_109 (Or.inl ⟨⟨by grind, c_14⟩, by first | (rw [e24_0]; decide) | (rw [e24_1]; decide) | (rw [e24_2]; decide) | (rw [e24_3]; decide) | (rw [e24_4]; decide) | (rw [e24_5]; decide) | (rw [e24_6]; decide), rfl, by unfold tellS; simp [*]⟩) (hP) (hD) hS
      by_cases e24_6 : x = 6
      · refine lv_tableIn (tgt := 110) hx hb dX8_look_24 (by rw [e24_6]; decide) (by rw [e24_6]; decide) (by rw [e24_6]; rfl) (by decide) ?_
        refine lv_aload_n hx hb dX8_look_110 rfl (lv_at hl 0 rfl) ?_
        refine va_get (D := D) (ci := 8) (v := .ref (mA 16)) (C := RX8) (T := TX8) (N := 44) hx hb hts inX8 hown hK hP 0 rfl rfl 16 (by decide) fl43 (fun _ h9 => h9) rfl dX8_look_111 ?_
        refine lv_iload_n hx hb dX8_look_114 rfl (lv_at hl 1 rfl) ?_
        refine va_zald hx hb hK hP 7 1 rfl rfl (vp_in_range c_6 c_14 hnp (by decide)) dX8_look_115 ?_
        refine lv_if_eq (tgt := 123) hx hb dX8_look_116 (by decide) (fun c_116 => ?_) (fun c_116 => ?_)
        · skip
          refine lv_iconst (v := 0) hx hb dX8_look_123 (by decide) ?_
          exact ret 0 0 _ _ _ _ dX8_look_124 (Or.inl ⟨⟨by grind, c_14⟩, by first | (rw [e24_0]; decide) | (rw [e24_1]; decide) | (rw [e24_2]; decide) | (rw [e24_3]; decide) | (rw [e24_4]; decide) | (rw [e24_5]; decide) | (rw [e24_6]; decide), rfl, by unfold tellS; simp [*]⟩) (hP) (hD) hS
        · skip
          refine lv_iconst (v := 1) hx hb dX8_look_119 (by decide) ?_
          refine lv_goto (tgt := 124) hx hb dX8_look_120 (by decide) ?_
          exact ret 1 0 _ _ _ _ dX8_look_124 (Or.inl ⟨⟨by grind, c_14⟩, by first | (rw [e24_0]; decide) | (rw [e24_1]; decide) | (rw [e24_2]; decide) | (rw [e24_3]; decide) | (rw [e24_4]; decide) | (rw [e24_5]; decide) | (rw [e24_6]; decide), rfl, by unfold tellS; simp [*]⟩) (hP) (hD) hS
      refine lv_tableOut (tgt := 125) hx hb dX8_look_24 (by have t0 := sw_ne (z := 0) (by decide) e24_0; have t1 := sw_ne (z := 1) (by decide) e24_1; have t2 := sw_ne (z := 2) (by decide) e24_2; have t3 := sw_ne (z := 3) (by decide) e24_3; have t4 := sw_ne (z := 4) (by decide) e24_4; have t5 := sw_ne (z := 5) (by decide) e24_5; have t6 := sw_ne (z := 6) (by decide) e24_6; omega) (by decide) ?_
      refine lv_aload_n hx hb dX8_look_125 rfl (lv_at hl 0 rfl) ?_
      refine lv_iconst (v := 2) hx hb dX8_look_126 (by decide) ?_
      refine m_cVi (As := [.int 2]) (rest := []) (wr := [ar cI (mA 7) 40 fDB, ar cI (mA 8) 40 fCR, ar cI (mA 12) 40 fTK, ar cI (mA 13) 40 fRK, ar cI (mA 14) 40 fLF, ar cI (mA 15) 40 fDY, ar cZ (mA 16) 40 fCP]) ⟨hx, hb, hml, hown, hts⟩ (c_X8_fails l D cI cZ aM mA nt 0 td nm np isd ln rf rp sz nx kd wh pl rd rn ic mcm mcp mcr 2 ) (cwV 1 hts gX8_look_X8_fails rfl rfl rfl (by decide +kernel) ⟨Nat.le_of_ble_eq_true rfl, Nat.le_of_ble_eq_true rfl⟩) hN hK hP hD hS hA [0] [1, 2, 3, 4, 5, 6, 7] rfl rfl (by decide) (by decide) (by decide) 0 (ci := 8) rfl rfl rfl rfl hl.1 rfl (Nat.le_of_ble_eq_true rfl) dX8_look_127 ⟨Nat.le_of_ble_eq_true rfl, Nat.le_of_ble_eq_true rfl⟩ (fun r_127 u_127 H locs hq_127 hP hD hS => ?_)
      have hq_127 : r_127 = 0 := hq_127
      have hP : va_P D vwCl [ar cI (mA 7) 40 fDB, ar cI (mA 8) 40 fCR, ar cI (mA 12) 40 fTK, ar cI (mA 13) 40 fRK, ar cI (mA 14) 40 fLF, ar cI (mA 15) 40 fDY, ar cZ (mA 16) 40 fCP, mo aM mA (nI nt) 2 td (nI nm) (nI np) isd ln rf rp sz nx kd wh pl rd rn ic mcm mcp mcr] H := hP
      have hD : va_D A [ar cI (mA 7) 40 fDB, ar cI (mA 8) 40 fCR, ar cI (mA 12) 40 fTK, ar cI (mA 13) 40 fRK, ar cI (mA 14) 40 fLF, ar cI (mA 15) 40 fDY, ar cZ (mA 16) 40 fCP, mo aM mA (nI nt) 2 td (nI nm) (nI np) isd ln rf rp sz nx kd wh pl rd rn ic mcm mcp mcr] := hD
      exact ret r_127 2 _ _ _ _ dX8_look_130 (Or.inr (Or.inl ⟨⟨by grind, c_14⟩, sw_range e24_0 e24_1 e24_2 e24_3 e24_4 e24_5 e24_6, rfl⟩)) (hP.sub [7, 0, 1, 2, 3, 4, 5, 6] rfl) (hD.sub [7, 0, 1, 2, 3, 4, 5, 6] (by decide) rfl) hS
    · skip
      refine lv_aload_n hx hb dX8_look_17 rfl (lv_at hl 0 rfl) ?_
      refine lv_iconst (v := 1) hx hb dX8_look_18 (by decide) ?_
      refine m_cVi (As := [.int 1]) (rest := []) (wr := [ar cI (mA 7) 40 fDB, ar cI (mA 8) 40 fCR, ar cI (mA 12) 40 fTK, ar cI (mA 13) 40 fRK, ar cI (mA 14) 40 fLF, ar cI (mA 15) 40 fDY, ar cZ (mA 16) 40 fCP]) ⟨hx, hb, hml, hown, hts⟩ (c_X8_fails l D cI cZ aM mA nt 0 td nm np isd ln rf rp sz nx kd wh pl rd rn ic mcm mcp mcr 1 ) (cwV 1 hts gX8_look_X8_fails rfl rfl rfl (by decide +kernel) ⟨Nat.le_of_ble_eq_true rfl, Nat.le_of_ble_eq_true rfl⟩) hN hK hP hD hS hA [0] [1, 2, 3, 4, 5, 6, 7] rfl rfl (by decide) (by decide) (by decide) 0 (ci := 8) rfl rfl rfl rfl hl.1 rfl (Nat.le_of_ble_eq_true rfl) dX8_look_19 ⟨Nat.le_of_ble_eq_true rfl, Nat.le_of_ble_eq_true rfl⟩ (fun r_19 u_19 H locs hq_19 hP hD hS => ?_)
      have hq_19 : r_19 = 0 := hq_19
      have hP : va_P D vwCl [ar cI (mA 7) 40 fDB, ar cI (mA 8) 40 fCR, ar cI (mA 12) 40 fTK, ar cI (mA 13) 40 fRK, ar cI (mA 14) 40 fLF, ar cI (mA 15) 40 fDY, ar cZ (mA 16) 40 fCP, mo aM mA (nI nt) 1 td (nI nm) (nI np) isd ln rf rp sz nx kd wh pl rd rn ic mcm mcp mcr] H := hP
      have hD : va_D A [ar cI (mA 7) 40 fDB, ar cI (mA 8) 40 fCR, ar cI (mA 12) 40 fTK, ar cI (mA 13) 40 fRK, ar cI (mA 14) 40 fLF, ar cI (mA 15) 40 fDY, ar cZ (mA 16) 40 fCP, mo aM mA (nI nt) 1 td (nI nm) (nI np) isd ln rf rp sz nx kd wh pl rd rn ic mcm mcp mcr] := hD
      exact ret r_19 1 _ _ _ _ dX8_look_22 (Or.inr (Or.inr ⟨by grind, rfl⟩)) (hP.sub [7, 0, 1, 2, 3, 4, 5, 6] rfl) (hD.sub [7, 0, 1, 2, 3, 4, 5, 6] (by decide) rfl) hS
abbrev r_c_X8_pass : Room := { frames := 0, cells := 0, slots := 0, locals := 0 }
set_option maxHeartbeats 4000000 in
set_option maxRecDepth 100000 in
theorem c_X8_pass (l : Launch) (D : va_G) (cI cZ : ClassId) (aM : Nat) (mA : Nat → Nat) (nt : Nat) (th : Int32) (td : Int32) (nm : Nat) (np : Nat) (isd : Int32) (ln : Int32) (rf : Int32) (rp : Int32) (sz : Int32) (nx : Int32) (kd : Int32) (wh : Int32) (pl : Int32) (rd : Int32) (rn : Int32) (ic : Int32) (mcm : Int32) (mcp : Int32) (mcr : Int32) (x : Int32)  : MI l yX8_pass wsX8_pass r_c_X8_pass D cI cZ [.ref aM, .int x] [mo aM mA (nI nt) th td (nI nm) (nI np) isd ln rf rp sz nx kd wh pl rd rn ic mcm mcp mcr] (fun (r : Int32) (u : Int32) => ((0 ≤ x ∧ x ≤ 999 - td) ∧ r = td + x ∧ u = td + x) ∨ (¬ (0 ≤ x ∧ x ≤ 999 - td) ∧ r = -1 ∧ u = td)) (fun (u : Int32) => [mo aM mA (nI nt) 0 u (nI nm) (nI np) isd ln rf rp sz nx kd wh pl rd rn ic mcm mcp mcr]) 0 0 := by
  refine MI.of (cc := cX8_pass) (maxL := 2) (by decide) rfl (Nat.le_of_ble_eq_true rfl) ?_
  intro p e s m below meth c A Q hx hb hml hown hts hN hK hA ret hP hD hS ls hl
  have hown : s.vm.findClass RX8 = some m.cls := hown
  have inX8 : ∀ w ∈ wsX80, w ∈ wsX8_pass := by decide +kernel
  have fl87 := hts (.fieldLink RX8 87 "AdvanceBookModel" "thrown" "I") (by decide +kernel)
  have fl104 := hts (.fieldLink RX8 104 "AdvanceBookModel" "today" "I") (by decide +kernel)
  have hP : va_P D vwCl [mo aM mA (nI nt) th td (nI nm) (nI np) isd ln rf rp sz nx kd wh pl rd rn ic mcm mcp mcr] s.heap := hP
  have hD : va_D A [mo aM mA (nI nt) th td (nI nm) (nI np) isd ln rf rp sz nx kd wh pl rd rn ic mcm mcp mcr] := hD
  have hl : lv_has ls 2 [(0, .ref aM), (1, .int x)] := hl
  refine lv_aload_n hx hb dX8_pass_0 rfl (lv_at hl 0 rfl) ?_
  refine lv_iconst (v := 0) hx hb dX8_pass_1 (by decide) ?_
  refine va_put (D := D) (ci := 8) (v := .int 0) (ty := .int) (C := RX8) (T := TX8) (N := 44) hx hb hts inX8 tyX8 tyX8_ok nmX8 hown hK hP hD hS 0 rfl rfl 2 (by decide) fl87 (fun _ h9 => h9) rfl (by decide +kernel) (rfl) (rfl) (Nat.le_of_ble_eq_true rfl) dX8_pass_2 (fun H locs hP hD hS => ?_)
  have hP : va_P D vwCl [mo aM mA (nI nt) 0 td (nI nm) (nI np) isd ln rf rp sz nx kd wh pl rd rn ic mcm mcp mcr] H := hP
  have hD : va_D A [mo aM mA (nI nt) 0 td (nI nm) (nI np) isd ln rf rp sz nx kd wh pl rd rn ic mcm mcp mcr] := hD
  refine lv_iload_n hx hb dX8_pass_5 rfl (lv_at hl 1 rfl) ?_
  refine lv_if_lt (tgt := 21) hx hb dX8_pass_6 (by decide) (fun c_6 => ?_) (fun c_6 => ?_)
  · skip
    refine lv_iconst (v := (-1)) hx hb dX8_pass_21 (by decide) ?_
    exact ret (-1) td _ _ _ _ dX8_pass_22 (Or.inr ⟨by grind, rfl, rfl⟩) (hP) (hD) hS
  · skip
    refine lv_iload_n hx hb dX8_pass_9 rfl (lv_at hl 1 rfl) ?_
    refine lv_sipush (v := 999) hx hb dX8_pass_10 (by decide) ?_
    refine lv_aload_n hx hb dX8_pass_13 rfl (lv_at hl 0 rfl) ?_
    refine va_get (D := D) (ci := 8) (v := .int td) (C := RX8) (T := TX8) (N := 44) hx hb hts inX8 hown hK hP 0 rfl rfl 3 (by decide) fl104 (fun _ h9 => h9) rfl dX8_pass_14 ?_
    refine lv_isub hx hb dX8_pass_17 ?_
    refine lv_icmp_le (tgt := 23) hx hb dX8_pass_18 (by decide) (fun c_18 => ?_) (fun c_18 => ?_)
    · skip
      refine lv_aload_n hx hb dX8_pass_23 rfl (lv_at hl 0 rfl) ?_
      refine lv_dup hx hb dX8_pass_24 rfl ?_
      refine va_get (D := D) (ci := 8) (v := .int td) (C := RX8) (T := TX8) (N := 44) hx hb hts inX8 hown hK hP 0 rfl rfl 3 (by decide) fl104 (fun _ h9 => h9) rfl dX8_pass_25 ?_
      refine lv_iload_n hx hb dX8_pass_28 rfl (lv_at hl 1 rfl) ?_
      refine lv_iadd hx hb dX8_pass_29 ?_
      refine va_put (D := D) (ci := 8) (v := .int (td + x)) (ty := .int) (C := RX8) (T := TX8) (N := 44) hx hb hts inX8 tyX8 tyX8_ok nmX8 hown hK hP hD hS 0 rfl rfl 3 (by decide) fl104 (fun _ h9 => h9) rfl (by decide +kernel) (rfl) (rfl) (Nat.le_of_ble_eq_true rfl) dX8_pass_30 (fun H locs hP hD hS => ?_)
      have hP : va_P D vwCl [mo aM mA (nI nt) 0 (td + x) (nI nm) (nI np) isd ln rf rp sz nx kd wh pl rd rn ic mcm mcp mcr] H := hP
      have hD : va_D A [mo aM mA (nI nt) 0 (td + x) (nI nm) (nI np) isd ln rf rp sz nx kd wh pl rd rn ic mcm mcp mcr] := hD
      refine lv_aload_n hx hb dX8_pass_33 rfl (lv_at hl 0 rfl) ?_
      refine va_get (D := D) (ci := 8) (v := .int (td + x)) (C := RX8) (T := TX8) (N := 44) hx hb hts inX8 hown hK hP 0 rfl rfl 3 (by decide) fl104 (fun _ h9 => h9) rfl dX8_pass_34 ?_
      exact ret (td + x) (td + x) _ _ _ _ dX8_pass_37 (Or.inl ⟨⟨by grind, c_18⟩, rfl, rfl⟩) (hP) (hD) hS
    · skip
      refine lv_iconst (v := (-1)) hx hb dX8_pass_21 (by decide) ?_
      exact ret (-1) td _ _ _ _ dX8_pass_22 (Or.inr ⟨by grind, rfl, rfl⟩) (hP) (hD) hS
abbrev r_c_X8_purse : Room := { frames := 1, cells := 0, slots := 0, locals := 21 }
set_option maxHeartbeats 4000000 in
set_option maxRecDepth 100000 in
theorem c_X8_purse (l : Launch) (D : va_G) (cI cZ : ClassId) (aM : Nat) (mA : Nat → Nat) (nt : Nat) (th : Int32) (td : Int32) (nm : Nat) (np : Nat) (isd : Int32) (ln : Int32) (rf : Int32) (rp : Int32) (sz : Int32) (nx : Int32) (kd : Int32) (wh : Int32) (pl : Int32) (rd : Int32) (rn : Int32) (ic : Int32) (mcm : Int32) (mcp : Int32) (mcr : Int32) (fPU : Nat → Int32) (x : Int32) (hnm : nm ≤ 10) : MI l yX8_purse wsX8_purse r_c_X8_purse D cI cZ [.ref aM, .int x] [mo aM mA (nI nt) th td (nI nm) (nI np) isd ln rf rp sz nx kd wh pl rd rn ic mcm mcp mcr, ar cI (mA 5) 10 fPU] (fun (r : Int32) (u : Unit) => r = if 0 ≤ x ∧ x < nI nm then fPU (ix x) else -1) (fun (u : Unit) => [mo aM mA (nI nt) 0 td (nI nm) (nI np) isd ln rf rp sz nx kd wh pl rd rn ic mcm mcp mcr, ar cI (mA 5) 10 fPU]) 0 0 := by
  refine MI.of (cc := cX8_purse) (maxL := 2) (by decide) rfl (Nat.le_of_ble_eq_true rfl) ?_
  intro p e s m below meth c A Q hx hb hml hown hts hN hK hA ret hP hD hS ls hl
  have hown : s.vm.findClass RX8 = some m.cls := hown
  have inX8 : ∀ w ∈ wsX80, w ∈ wsX8_purse := by decide +kernel
  have fl13 := hts (.fieldLink RX8 13 "AdvanceBookModel" "purse" "[I") (by decide +kernel)
  have fl87 := hts (.fieldLink RX8 87 "AdvanceBookModel" "thrown" "I") (by decide +kernel)
  have hP : va_P D vwCl [mo aM mA (nI nt) th td (nI nm) (nI np) isd ln rf rp sz nx kd wh pl rd rn ic mcm mcp mcr, ar cI (mA 5) 10 fPU] s.heap := hP
  have hD : va_D A [mo aM mA (nI nt) th td (nI nm) (nI np) isd ln rf rp sz nx kd wh pl rd rn ic mcm mcp mcr, ar cI (mA 5) 10 fPU] := hD
  have hl : lv_has ls 2 [(0, .ref aM), (1, .int x)] := hl
  refine lv_aload_n hx hb dX8_purse_0 rfl (lv_at hl 0 rfl) ?_
  refine lv_iconst (v := 0) hx hb dX8_purse_1 (by decide) ?_
  refine va_put (D := D) (ci := 8) (v := .int 0) (ty := .int) (C := RX8) (T := TX8) (N := 44) hx hb hts inX8 tyX8 tyX8_ok nmX8 hown hK hP hD hS 0 rfl rfl 2 (by decide) fl87 (fun _ h9 => h9) rfl (by decide +kernel) (rfl) (rfl) (Nat.le_of_ble_eq_true rfl) dX8_purse_2 (fun H locs hP hD hS => ?_)
  have hP : va_P D vwCl [mo aM mA (nI nt) 0 td (nI nm) (nI np) isd ln rf rp sz nx kd wh pl rd rn ic mcm mcp mcr, ar cI (mA 5) 10 fPU] H := hP
  have hD : va_D A [mo aM mA (nI nt) 0 td (nI nm) (nI np) isd ln rf rp sz nx kd wh pl rd rn ic mcm mcp mcr, ar cI (mA 5) 10 fPU] := hD
  refine lv_aload_n hx hb dX8_purse_5 rfl (lv_at hl 0 rfl) ?_
  refine lv_iload_n hx hb dX8_purse_6 rfl (lv_at hl 1 rfl) ?_
  refine m_cVi (As := [.int x]) (rest := []) (wr := [ar cI (mA 5) 10 fPU]) ⟨hx, hb, hml, hown, hts⟩ (c_X8_isMan l D cI cZ aM mA nt 0 td nm np isd ln rf rp sz nx kd wh pl rd rn ic mcm mcp mcr x ) (cwV 1 hts gX8_purse_X8_isMan rfl rfl rfl (by decide +kernel) ⟨Nat.le_of_ble_eq_true rfl, Nat.le_of_ble_eq_true rfl⟩) hN hK hP hD hS hA [0] [1] rfl rfl (by decide) (by decide) (by decide) 0 (ci := 8) rfl rfl rfl rfl hl.1 rfl (Nat.le_of_ble_eq_true rfl) dX8_purse_7 ⟨Nat.le_of_ble_eq_true rfl, Nat.le_of_ble_eq_true rfl⟩ (fun r_7 u_7 H locs hq_7 hP hD hS => ?_)
  have hq_7 : r_7 = if 0 ≤ x ∧ x < nI nm then 1 else 0 := hq_7
  have hP : va_P D vwCl [ar cI (mA 5) 10 fPU, mo aM mA (nI nt) 0 td (nI nm) (nI np) isd ln rf rp sz nx kd wh pl rd rn ic mcm mcp mcr] H := hP
  have hD : va_D A [ar cI (mA 5) 10 fPU, mo aM mA (nI nt) 0 td (nI nm) (nI np) isd ln rf rp sz nx kd wh pl rd rn ic mcm mcp mcr] := hD
  refine lv_if_eq (tgt := 22) hx hb dX8_purse_10 (by decide) (fun c_10 => ?_) (fun c_10 => ?_)
  · skip
    refine lv_iconst (v := (-1)) hx hb dX8_purse_22 (by decide) ?_
    exact ret (-1) () _ _ _ _ dX8_purse_23 (by first | (rw [if_pos (man_in hq_7 c_10)]) | (rw [if_neg (man_not hq_7 c_10)])) (hP.sub [1, 0] rfl) (hD.sub [1, 0] (by decide) rfl) hS
  · skip
    refine lv_aload_n hx hb dX8_purse_13 rfl (lv_at hl 0 rfl) ?_
    refine va_get (D := D) (ci := 8) (v := .ref (mA 5)) (C := RX8) (T := TX8) (N := 44) hx hb hts inX8 hown hK hP 1 rfl rfl 5 (by decide) fl13 (fun _ h9 => h9) rfl dX8_purse_14 ?_
    refine lv_iload_n hx hb dX8_purse_17 rfl (lv_at hl 1 rfl) ?_
    refine va_iald hx hb hK hP 0 0 rfl rfl (man_vp hnm hq_7 c_10) dX8_purse_18 ?_
    refine lv_goto (tgt := 23) hx hb dX8_purse_19 (by decide) ?_
    exact ret (fPU (ix x)) () _ _ _ _ dX8_purse_23 (by first | (rw [if_pos (man_in hq_7 c_10)]) | (rw [if_neg (man_not hq_7 c_10)])) (hP.sub [1, 0] rfl) (hD.sub [1, 0] (by decide) rfl) hS
abbrev r_c_X8_net : Room := { frames := 1, cells := 0, slots := 0, locals := 23 }
set_option maxHeartbeats 4000000 in
set_option maxRecDepth 100000 in
theorem c_X8_net (l : Launch) (D : va_G) (cI cZ : ClassId) (aM : Nat) (mA : Nat → Nat) (nt : Nat) (th : Int32) (td : Int32) (nm : Nat) (np : Nat) (isd : Int32) (ln : Int32) (rf : Int32) (rp : Int32) (sz : Int32) (nx : Int32) (kd : Int32) (wh : Int32) (pl : Int32) (rd : Int32) (rn : Int32) (ic : Int32) (mcm : Int32) (mcp : Int32) (mcr : Int32) (fCR : Nat → Int32) (fLF : Nat → Int32) (fDB : Nat → Int32) (x : Int32) (hnp : np ≤ 40) : MI l yX8_net wsX8_net r_c_X8_net D cI cZ [.ref aM, .int x] [mo aM mA (nI nt) th td (nI nm) (nI np) isd ln rf rp sz nx kd wh pl rd rn ic mcm mcp mcr, ar cI (mA 8) 40 fCR, ar cI (mA 14) 40 fLF, ar cI (mA 7) 40 fDB] (fun (r : Int32) (u : Unit) => r = if 0 ≤ x ∧ x < nI nm then netS fCR fDB fLF x np else -2147483648) (fun (u : Unit) => [mo aM mA (nI nt) 0 td (nI nm) (nI np) isd ln rf rp sz nx kd wh pl rd rn ic mcm mcp mcr, ar cI (mA 8) 40 fCR, ar cI (mA 14) 40 fLF, ar cI (mA 7) 40 fDB]) 0 0 := by
  refine MI.of (cc := cX8_net) (maxL := 2) (by decide) rfl (Nat.le_of_ble_eq_true rfl) ?_
  intro p e s m below meth c A Q hx hb hml hown hts hN hK hA ret hP hD hS ls hl
  have hown : s.vm.findClass RX8 = some m.cls := hown
  have inX8 : ∀ w ∈ wsX80, w ∈ wsX8_net := by decide +kernel
  have fl87 := hts (.fieldLink RX8 87 "AdvanceBookModel" "thrown" "I") (by decide +kernel)
  have hP : va_P D vwCl [mo aM mA (nI nt) th td (nI nm) (nI np) isd ln rf rp sz nx kd wh pl rd rn ic mcm mcp mcr, ar cI (mA 8) 40 fCR, ar cI (mA 14) 40 fLF, ar cI (mA 7) 40 fDB] s.heap := hP
  have hD : va_D A [mo aM mA (nI nt) th td (nI nm) (nI np) isd ln rf rp sz nx kd wh pl rd rn ic mcm mcp mcr, ar cI (mA 8) 40 fCR, ar cI (mA 14) 40 fLF, ar cI (mA 7) 40 fDB] := hD
  have hl : lv_has ls 2 [(0, .ref aM), (1, .int x)] := hl
  refine lv_aload_n hx hb dX8_net_0 rfl (lv_at hl 0 rfl) ?_
  refine lv_iconst (v := 0) hx hb dX8_net_1 (by decide) ?_
  refine va_put (D := D) (ci := 8) (v := .int 0) (ty := .int) (C := RX8) (T := TX8) (N := 44) hx hb hts inX8 tyX8 tyX8_ok nmX8 hown hK hP hD hS 0 rfl rfl 2 (by decide) fl87 (fun _ h9 => h9) rfl (by decide +kernel) (rfl) (rfl) (Nat.le_of_ble_eq_true rfl) dX8_net_2 (fun H locs hP hD hS => ?_)
  have hP : va_P D vwCl [mo aM mA (nI nt) 0 td (nI nm) (nI np) isd ln rf rp sz nx kd wh pl rd rn ic mcm mcp mcr, ar cI (mA 8) 40 fCR, ar cI (mA 14) 40 fLF, ar cI (mA 7) 40 fDB] H := hP
  have hD : va_D A [mo aM mA (nI nt) 0 td (nI nm) (nI np) isd ln rf rp sz nx kd wh pl rd rn ic mcm mcp mcr, ar cI (mA 8) 40 fCR, ar cI (mA 14) 40 fLF, ar cI (mA 7) 40 fDB] := hD
  refine lv_aload_n hx hb dX8_net_5 rfl (lv_at hl 0 rfl) ?_
  refine lv_iload_n hx hb dX8_net_6 rfl (lv_at hl 1 rfl) ?_
  refine m_cVi (As := [.int x]) (rest := []) (wr := [ar cI (mA 8) 40 fCR, ar cI (mA 14) 40 fLF, ar cI (mA 7) 40 fDB]) ⟨hx, hb, hml, hown, hts⟩ (c_X8_isMan l D cI cZ aM mA nt 0 td nm np isd ln rf rp sz nx kd wh pl rd rn ic mcm mcp mcr x ) (cwV 1 hts gX8_net_X8_isMan rfl rfl rfl (by decide +kernel) ⟨Nat.le_of_ble_eq_true rfl, Nat.le_of_ble_eq_true rfl⟩) hN hK hP hD hS hA [0] [1, 2, 3] rfl rfl (by decide) (by decide) (by decide) 0 (ci := 8) rfl rfl rfl rfl hl.1 rfl (Nat.le_of_ble_eq_true rfl) dX8_net_7 ⟨Nat.le_of_ble_eq_true rfl, Nat.le_of_ble_eq_true rfl⟩ (fun r_7 u_7 H locs hq_7 hP hD hS => ?_)
  have hq_7 : r_7 = if 0 ≤ x ∧ x < nI nm then 1 else 0 := hq_7
  have hP : va_P D vwCl [ar cI (mA 8) 40 fCR, ar cI (mA 14) 40 fLF, ar cI (mA 7) 40 fDB, mo aM mA (nI nt) 0 td (nI nm) (nI np) isd ln rf rp sz nx kd wh pl rd rn ic mcm mcp mcr] H := hP
  have hD : va_D A [ar cI (mA 8) 40 fCR, ar cI (mA 14) 40 fLF, ar cI (mA 7) 40 fDB, mo aM mA (nI nt) 0 td (nI nm) (nI np) isd ln rf rp sz nx kd wh pl rd rn ic mcm mcp mcr] := hD
  refine lv_if_eq (tgt := 21) hx hb dX8_net_10 (by decide) (fun c_10 => ?_) (fun c_10 => ?_)
  · skip
    refine lv_ldc (v := (-2147483648)) hx hb hown (hts (.constant RX8 114 (-2147483648)) (by decide +kernel)) dX8_net_21 ?_
    exact ret (-2147483648) () _ _ _ _ dX8_net_23 (by first | (rw [if_pos (man_in hq_7 c_10)]; exact hq_15) | (rw [if_neg (man_not hq_7 c_10)])) (hP.sub [3, 0, 1, 2] rfl) (hD.sub [3, 0, 1, 2] (by decide) rfl) hS
  · skip
    refine lv_aload_n hx hb dX8_net_13 rfl (lv_at hl 0 rfl) ?_
    refine lv_iload_n hx hb dX8_net_14 rfl (lv_at hl 1 rfl) ?_
    refine m_cVi (As := [.int x]) (rest := []) (wr := []) ⟨hx, hb, hml, hown, hts⟩ (c_X8_netOf l D cI cZ aM mA nt 0 td nm np isd ln rf rp sz nx kd wh pl rd rn ic mcm mcp mcr fCR fLF fDB x (by first | assumption | omega)) (cwV 1 hts gX8_net_X8_netOf rfl rfl rfl (by decide +kernel) ⟨Nat.le_of_ble_eq_true rfl, Nat.le_of_ble_eq_true rfl⟩) hN hK hP hD hS hA [3, 0, 1, 2] [] rfl rfl (by decide) (by decide) (by decide) 0 (ci := 8) rfl rfl rfl rfl hl.1 rfl (Nat.le_of_ble_eq_true rfl) dX8_net_15 ⟨Nat.le_of_ble_eq_true rfl, Nat.le_of_ble_eq_true rfl⟩ (fun r_15 u_15 H locs hq_15 hP hD hS => ?_)
    have hq_15 : r_15 = netS fCR fDB fLF x np := hq_15
    have hP : va_P D vwCl [mo aM mA (nI nt) 0 td (nI nm) (nI np) isd ln rf rp sz nx kd wh pl rd rn ic mcm mcp mcr, ar cI (mA 8) 40 fCR, ar cI (mA 14) 40 fLF, ar cI (mA 7) 40 fDB] H := hP
    have hD : va_D A [mo aM mA (nI nt) 0 td (nI nm) (nI np) isd ln rf rp sz nx kd wh pl rd rn ic mcm mcp mcr, ar cI (mA 8) 40 fCR, ar cI (mA 14) 40 fLF, ar cI (mA 7) 40 fDB] := hD
    refine lv_goto (tgt := 23) hx hb dX8_net_18 (by decide) ?_
    exact ret r_15 () _ _ _ _ dX8_net_23 (by first | (rw [if_pos (man_in hq_7 c_10)]; exact hq_15) | (rw [if_neg (man_not hq_7 c_10)])) (hP) (hD) hS
abbrev r_c_X8_thread : Room := { frames := 1, cells := 0, slots := 0, locals := 23 }
set_option maxHeartbeats 4000000 in
set_option maxRecDepth 100000 in
theorem c_X8_thread (l : Launch) (D : va_G) (cI cZ : ClassId) (aM : Nat) (mA : Nat → Nat) (nt : Nat) (th : Int32) (td : Int32) (nm : Nat) (np : Nat) (isd : Int32) (ln : Int32) (rf : Int32) (rp : Int32) (sz : Int32) (nx : Int32) (kd : Int32) (wh : Int32) (pl : Int32) (rd : Int32) (rn : Int32) (ic : Int32) (mcm : Int32) (mcp : Int32) (mcr : Int32) (fCR : Nat → Int32) (fLF : Nat → Int32) (fDB : Nat → Int32) (hnp : np ≤ 40) (hnm : nm ≤ 10) : MI l yX8_thread wsX8_thread r_c_X8_thread D cI cZ [.ref aM] [mo aM mA (nI nt) th td (nI nm) (nI np) isd ln rf rp sz nx kd wh pl rd rn ic mcm mcp mcr, ar cI (mA 8) 40 fCR, ar cI (mA 14) 40 fLF, ar cI (mA 7) 40 fDB] (fun (r : Int32) (u : Unit) => r = posS (netsF fCR fDB fLF np) nm) (fun (u : Unit) => [mo aM mA (nI nt) 0 td (nI nm) (nI np) isd ln rf rp sz nx kd wh pl rd rn ic mcm mcp mcr, ar cI (mA 8) 40 fCR, ar cI (mA 14) 40 fLF, ar cI (mA 7) 40 fDB]) 0 0 := by
  refine MI.of (cc := cX8_thread) (maxL := 3) (by decide) rfl (Nat.le_of_ble_eq_true rfl) ?_
  intro p e s m below meth c A Q hx hb hml hown hts hN hK hA ret hP hD hS ls hl
  have hown : s.vm.findClass RX8 = some m.cls := hown
  have inX8 : ∀ w ∈ wsX80, w ∈ wsX8_thread := by decide +kernel
  have fl87 := hts (.fieldLink RX8 87 "AdvanceBookModel" "thrown" "I") (by decide +kernel)
  have fl94 := hts (.fieldLink RX8 94 "AdvanceBookModel" "men" "I") (by decide +kernel)
  have hP : va_P D vwCl [mo aM mA (nI nt) th td (nI nm) (nI np) isd ln rf rp sz nx kd wh pl rd rn ic mcm mcp mcr, ar cI (mA 8) 40 fCR, ar cI (mA 14) 40 fLF, ar cI (mA 7) 40 fDB] s.heap := hP
  have hD : va_D A [mo aM mA (nI nt) th td (nI nm) (nI np) isd ln rf rp sz nx kd wh pl rd rn ic mcm mcp mcr, ar cI (mA 8) 40 fCR, ar cI (mA 14) 40 fLF, ar cI (mA 7) 40 fDB] := hD
  have hl : lv_has ls 3 [(0, .ref aM)] := hl
  refine lv_aload_n hx hb dX8_thread_0 rfl (lv_at hl 0 rfl) ?_
  refine lv_iconst (v := 0) hx hb dX8_thread_1 (by decide) ?_
  refine va_put (D := D) (ci := 8) (v := .int 0) (ty := .int) (C := RX8) (T := TX8) (N := 44) hx hb hts inX8 tyX8 tyX8_ok nmX8 hown hK hP hD hS 0 rfl rfl 2 (by decide) fl87 (fun _ h9 => h9) rfl (by decide +kernel) (rfl) (rfl) (Nat.le_of_ble_eq_true rfl) dX8_thread_2 (fun H locs hP hD hS => ?_)
  have hP : va_P D vwCl [mo aM mA (nI nt) 0 td (nI nm) (nI np) isd ln rf rp sz nx kd wh pl rd rn ic mcm mcp mcr, ar cI (mA 8) 40 fCR, ar cI (mA 14) 40 fLF, ar cI (mA 7) 40 fDB] H := hP
  have hD : va_D A [mo aM mA (nI nt) 0 td (nI nm) (nI np) isd ln rf rp sz nx kd wh pl rd rn ic mcm mcp mcr, ar cI (mA 8) 40 fCR, ar cI (mA 14) 40 fLF, ar cI (mA 7) 40 fDB] := hD
  refine lv_iconst (v := 0) hx hb dX8_thread_5 (by decide) ?_
  refine lv_istore_n (lv' := [(1, .int 0), (0, .ref aM)]) hx hb dX8_thread_6 rfl hl (by decide) rfl (fun ls hl => ?_)
  refine lv_iconst (v := 0) hx hb dX8_thread_7 (by decide) ?_
  refine lv_istore_n (lv' := [(2, .int 0), (1, .int 0), (0, .ref aM)]) hx hb dX8_thread_8 rfl hl (by decide) rfl (fun ls hl => ?_)
  have L_9 : ∀ (n_9 : Nat) (k : Nat) (sm : Int32), (nm - k < n_9) → (k ≤ nm) → (sm = posS (netsF fCR fDB fLF np) k) → ∀ (H : Heap) (locs : List Loc), va_P D vwCl [mo aM mA (nI nt) 0 td (nI nm) (nI np) isd ln rf rp sz nx kd wh pl rd rn ic mcm mcp mcr, ar cI (mA 8) 40 fCR, ar cI (mA 14) 40 fLF, ar cI (mA 7) 40 fDB] H → va_D A [mo aM mA (nI nt) 0 td (nI nm) (nI np) isd ln rf rp sz nx kd wh pl rd rn ic mcm mcp mcr, ar cI (mA 8) 40 fCR, ar cI (mA 14) 40 fLF, ar cI (mA 7) 40 fDB] → va_S A s.heap H locs → ∀ ls : Array Slot, lv_has ls 3 [(0, .ref aM), (1, .int sm), (2, .int (nI k))] → W p l e r_c_X8_thread s m (([.ref aM] : List Value).toArray) below meth c H locs 0 0 Q (F0 m 9 ls []) := by
    intro n_9
    induction n_9 with
    | zero => intro k sm hfu; exact absurd hfu (Nat.not_lt_zero _)
    | succ n_9 ih_9 =>
      intro k sm hfu_9 hk hs H locs hP hD hS ls hl
      refine lv_iload_n hx hb dX8_thread_9 rfl (lv_at hl 2 rfl) ?_
      refine lv_aload_n hx hb dX8_thread_10 rfl (lv_at hl 0 rfl) ?_
      refine va_get (D := D) (ci := 8) (v := .int (nI nm)) (C := RX8) (T := TX8) (N := 44) hx hb hts inX8 hown hK hP 0 rfl rfl 4 (by decide) fl94 (fun _ h9 => h9) rfl dX8_thread_11 ?_
      refine lv_icmp_ge (tgt := 43) hx hb dX8_thread_14 (by decide) (fun c_14 => ?_) (fun c_14 => ?_)
      · skip
        have k_14 : nm ≤ k := (nI_leI (a := nm) (b := k) (by omega) (by omega)).mp c_14
        refine lv_iload_n hx hb dX8_thread_43 rfl (lv_at hl 1 rfl) ?_
        exact ret sm () _ _ _ _ dX8_thread_44 (by have e : k = nm := (by omega); subst e; exact hs) (hP) (hD) hS
      · skip
        have k_14 : ¬ nm ≤ k := fun h9 => c_14 ((nI_leI (a := nm) (b := k) (by omega) (by omega)).mpr h9)
        refine lv_iload_n hx hb dX8_thread_17 rfl (lv_at hl 1 rfl) ?_
        refine lv_aload_n hx hb dX8_thread_18 rfl (lv_at hl 0 rfl) ?_
        refine lv_iload_n hx hb dX8_thread_19 rfl (lv_at hl 2 rfl) ?_
        refine m_cVi (As := [.int (nI k)]) (rest := [.int sm]) (wr := []) ⟨hx, hb, hml, hown, hts⟩ (c_X8_netOf l D cI cZ aM mA nt 0 td nm np isd ln rf rp sz nx kd wh pl rd rn ic mcm mcp mcr fCR fLF fDB (nI k) (by first | assumption | omega)) (cwV 1 hts gX8_thread_X8_netOf rfl rfl rfl (by decide +kernel) ⟨Nat.le_of_ble_eq_true rfl, Nat.le_of_ble_eq_true rfl⟩) hN hK hP hD hS hA [0, 1, 2, 3] [] rfl rfl (by decide) (by decide) (by decide) 0 (ci := 8) rfl rfl rfl rfl hl.1 rfl (Nat.le_of_ble_eq_true rfl) dX8_thread_20 ⟨Nat.le_of_ble_eq_true rfl, Nat.le_of_ble_eq_true rfl⟩ (fun r_20 u_20 H locs hq_20 hP hD hS => ?_)
        have hq_20 : r_20 = netS fCR fDB fLF (nI k) np := hq_20
        have hP : va_P D vwCl [mo aM mA (nI nt) 0 td (nI nm) (nI np) isd ln rf rp sz nx kd wh pl rd rn ic mcm mcp mcr, ar cI (mA 8) 40 fCR, ar cI (mA 14) 40 fLF, ar cI (mA 7) 40 fDB] H := hP
        have hD : va_D A [mo aM mA (nI nt) 0 td (nI nm) (nI np) isd ln rf rp sz nx kd wh pl rd rn ic mcm mcp mcr, ar cI (mA 8) 40 fCR, ar cI (mA 14) 40 fLF, ar cI (mA 7) 40 fDB] := hD
        refine lv_if_le (tgt := 34) hx hb dX8_thread_23 (by decide) (fun c_23 => ?_) (fun c_23 => ?_)
        · skip
          refine lv_iconst (v := 0) hx hb dX8_thread_34 (by decide) ?_
          refine lv_iadd hx hb dX8_thread_35 ?_
          refine lv_istore_n (lv' := [(1, .int (sm + 0)), (0, .ref aM), (2, .int (nI k))]) hx hb dX8_thread_36 rfl hl (by decide) rfl (fun ls hl => ?_)
          refine lv_iinc (v := (nI (k + 1))) (lv' := [(2, .int (nI (k + 1))), (1, .int (sm + 0)), (0, .ref aM)]) hx hb dX8_thread_37 hl (k := 2) rfl (nI_inc k 1 (by decide)) (by decide) rfl (fun ls hl => ?_)
          refine lv_goto (tgt := 9) hx hb dX8_thread_40 (by decide) ?_
          exact ih_9 (k + 1) (sm + 0) (by omega) (by omega) (by rw [hs]; first | exact pos_b (z := netsF fCR fDB fLF np) hq_20 c_23 | exact pos_a (z := netsF fCR fDB fLF np) hq_20 hq_28 c_23) _ _ (hP) (hD) hS ls (lv_sub hl [2, 1, 0] rfl)
        · skip
          refine lv_aload_n hx hb dX8_thread_26 rfl (lv_at hl 0 rfl) ?_
          refine lv_iload_n hx hb dX8_thread_27 rfl (lv_at hl 2 rfl) ?_
          refine m_cVi (As := [.int (nI k)]) (rest := [.int sm]) (wr := []) ⟨hx, hb, hml, hown, hts⟩ (c_X8_netOf l D cI cZ aM mA nt 0 td nm np isd ln rf rp sz nx kd wh pl rd rn ic mcm mcp mcr fCR fLF fDB (nI k) (by first | assumption | omega)) (cwV 1 hts gX8_thread_X8_netOf rfl rfl rfl (by decide +kernel) ⟨Nat.le_of_ble_eq_true rfl, Nat.le_of_ble_eq_true rfl⟩) hN hK hP hD hS hA [0, 1, 2, 3] [] rfl rfl (by decide) (by decide) (by decide) 0 (ci := 8) rfl rfl rfl rfl hl.1 rfl (Nat.le_of_ble_eq_true rfl) dX8_thread_28 ⟨Nat.le_of_ble_eq_true rfl, Nat.le_of_ble_eq_true rfl⟩ (fun r_28 u_28 H locs hq_28 hP hD hS => ?_)
          have hq_28 : r_28 = netS fCR fDB fLF (nI k) np := hq_28
          have hP : va_P D vwCl [mo aM mA (nI nt) 0 td (nI nm) (nI np) isd ln rf rp sz nx kd wh pl rd rn ic mcm mcp mcr, ar cI (mA 8) 40 fCR, ar cI (mA 14) 40 fLF, ar cI (mA 7) 40 fDB] H := hP
          have hD : va_D A [mo aM mA (nI nt) 0 td (nI nm) (nI np) isd ln rf rp sz nx kd wh pl rd rn ic mcm mcp mcr, ar cI (mA 8) 40 fCR, ar cI (mA 14) 40 fLF, ar cI (mA 7) 40 fDB] := hD
          refine lv_goto (tgt := 35) hx hb dX8_thread_31 (by decide) ?_
          refine lv_iadd hx hb dX8_thread_35 ?_
          refine lv_istore_n (lv' := [(1, .int (sm + r_28)), (0, .ref aM), (2, .int (nI k))]) hx hb dX8_thread_36 rfl hl (by decide) rfl (fun ls hl => ?_)
          refine lv_iinc (v := (nI (k + 1))) (lv' := [(2, .int (nI (k + 1))), (1, .int (sm + r_28)), (0, .ref aM)]) hx hb dX8_thread_37 hl (k := 2) rfl (nI_inc k 1 (by decide)) (by decide) rfl (fun ls hl => ?_)
          refine lv_goto (tgt := 9) hx hb dX8_thread_40 (by decide) ?_
          exact ih_9 (k + 1) (sm + r_28) (by omega) (by omega) (by rw [hs]; first | exact pos_b (z := netsF fCR fDB fLF np) hq_20 c_23 | exact pos_a (z := netsF fCR fDB fLF np) hq_20 hq_28 c_23) _ _ (hP) (hD) hS ls (lv_sub hl [2, 1, 0] rfl)
  exact L_9 ((nm - 0) + 1) 0 0 (Nat.lt_succ_self _) (by omega) (rfl) _ _ (hP) (hD) hS ls (lv_sub hl [2, 1, 0] rfl)
abbrev r_c_X8_heir : Room := { frames := 1, cells := 0, slots := 0, locals := 21 }
set_option maxHeartbeats 4000000 in
set_option maxRecDepth 100000 in
theorem c_X8_heir (l : Launch) (D : va_G) (cI cZ : ClassId) (aM : Nat) (mA : Nat → Nat) (nt : Nat) (th : Int32) (td : Int32) (nm : Nat) (np : Nat) (isd : Int32) (ln : Int32) (rf : Int32) (rp : Int32) (sz : Int32) (nx : Int32) (kd : Int32) (wh : Int32) (pl : Int32) (rd : Int32) (rn : Int32) (ic : Int32) (mcm : Int32) (mcp : Int32) (mcr : Int32) (fPU : Nat → Int32) (fDB : Nat → Int32) (fCR : Nat → Int32) (fLF : Nat → Int32) (x : Int32) (y : Int32) (hnm : nm ≤ 10) (hnp : np ≤ 40) (hself : ∀ k, k < np → fDB k = fCR k → fLF k = 0) : MI l yX8_heir wsX8_heir r_c_X8_heir D cI cZ [.ref aM, .int x, .int y] [mo aM mA (nI nt) th td (nI nm) (nI np) isd ln rf rp sz nx kd wh pl rd rn ic mcm mcp mcr, ar cI (mA 5) 10 fPU, ar cI (mA 7) 40 fDB, ar cI (mA 8) 40 fCR, ar cI (mA 14) 40 fLF] (fun (r : Int32) (u : (Nat → Int32) × (Nat → Int32) × (Nat → Int32) × (Nat → Int32)) => (((0 ≤ x ∧ x < nI nm) ∧ (0 ≤ y ∧ y < nI nm) ∧ ¬ x = y) ∧ r = 1 ∧ u.1 = upd (upd fPU (ix y) (fPU (ix y) + fPU (ix x))) (ix x) 0 ∧ u.2.1 = fil (rep x y fDB) fDB np ∧ u.2.2.1 = fil (rep x y fCR) fCR np ∧ u.2.2.2 = fil (repL x y fDB fCR fLF) fLF np) ∨ (¬ ((0 ≤ x ∧ x < nI nm) ∧ (0 ≤ y ∧ y < nI nm) ∧ ¬ x = y) ∧ r = 0 ∧ u.1 = fPU ∧ u.2.1 = fDB ∧ u.2.2.1 = fCR ∧ u.2.2.2 = fLF)) (fun (u : (Nat → Int32) × (Nat → Int32) × (Nat → Int32) × (Nat → Int32)) => [mo aM mA (nI nt) 0 td (nI nm) (nI np) isd ln rf rp sz nx kd wh pl rd rn ic mcm mcp mcr, ar cI (mA 5) 10 u.1, ar cI (mA 7) 40 u.2.1, ar cI (mA 8) 40 u.2.2.1, ar cI (mA 14) 40 u.2.2.2]) 0 0 := by
  refine MI.ofZ (cc := cX8_heir) (maxL := 5) (by decide) rfl (Nat.le_of_ble_eq_true rfl) ?_
  intro p e s m below meth c A Q hx hb hml hown hts hN hK hA ret hP hD hS ls hl
  have hown : s.vm.findClass RX8 = some m.cls := hown
  have inX8 : ∀ w ∈ wsX80, w ∈ wsX8_heir := by decide +kernel
  have fl13 := hts (.fieldLink RX8 13 "AdvanceBookModel" "purse" "[I") (by decide +kernel)
  have fl16 := hts (.fieldLink RX8 16 "AdvanceBookModel" "debtor" "[I") (by decide +kernel)
  have fl19 := hts (.fieldLink RX8 19 "AdvanceBookModel" "creditor" "[I") (by decide +kernel)
  have fl37 := hts (.fieldLink RX8 37 "AdvanceBookModel" "left" "[I") (by decide +kernel)
  have fl87 := hts (.fieldLink RX8 87 "AdvanceBookModel" "thrown" "I") (by decide +kernel)
  have fl101 := hts (.fieldLink RX8 101 "AdvanceBookModel" "papers" "I") (by decide +kernel)
  have hP : va_P D vwCl [mo aM mA (nI nt) th td (nI nm) (nI np) isd ln rf rp sz nx kd wh pl rd rn ic mcm mcp mcr, ar cI (mA 5) 10 fPU, ar cI (mA 7) 40 fDB, ar cI (mA 8) 40 fCR, ar cI (mA 14) 40 fLF] s.heap := hP
  have hD : va_D A [mo aM mA (nI nt) th td (nI nm) (nI np) isd ln rf rp sz nx kd wh pl rd rn ic mcm mcp mcr, ar cI (mA 5) 10 fPU, ar cI (mA 7) 40 fDB, ar cI (mA 8) 40 fCR, ar cI (mA 14) 40 fLF] := hD
  have hl : lv_has ls 5 [(0, .ref aM), (1, .int x), (2, .int y)] := hl
  refine lv_aload_n hx hb dX8_heir_0 rfl (lv_at hl 0 rfl) ?_
  refine lv_iconst (v := 0) hx hb dX8_heir_1 (by decide) ?_
  refine va_put (D := D) (ci := 8) (v := .int 0) (ty := .int) (C := RX8) (T := TX8) (N := 44) hx hb hts inX8 tyX8 tyX8_ok nmX8 hown hK hP hD hS 0 rfl rfl 2 (by decide) fl87 (fun _ h9 => h9) rfl (by decide +kernel) (rfl) (rfl) (Nat.le_of_ble_eq_true rfl) dX8_heir_2 (fun H locs hP hD hS => ?_)
  have hP : va_P D vwCl [mo aM mA (nI nt) 0 td (nI nm) (nI np) isd ln rf rp sz nx kd wh pl rd rn ic mcm mcp mcr, ar cI (mA 5) 10 fPU, ar cI (mA 7) 40 fDB, ar cI (mA 8) 40 fCR, ar cI (mA 14) 40 fLF] H := hP
  have hD : va_D A [mo aM mA (nI nt) 0 td (nI nm) (nI np) isd ln rf rp sz nx kd wh pl rd rn ic mcm mcp mcr, ar cI (mA 5) 10 fPU, ar cI (mA 7) 40 fDB, ar cI (mA 8) 40 fCR, ar cI (mA 14) 40 fLF] := hD
  refine lv_aload_n hx hb dX8_heir_5 rfl (lv_at hl 0 rfl) ?_
  refine lv_iload_n hx hb dX8_heir_6 rfl (lv_at hl 1 rfl) ?_
  refine m_cVi (As := [.int x]) (rest := []) (wr := [ar cI (mA 5) 10 fPU, ar cI (mA 7) 40 fDB, ar cI (mA 8) 40 fCR, ar cI (mA 14) 40 fLF]) ⟨hx, hb, hml, hown, hts⟩ (c_X8_isMan l D cI cZ aM mA nt 0 td nm np isd ln rf rp sz nx kd wh pl rd rn ic mcm mcp mcr x ) (cwV 1 hts gX8_heir_X8_isMan rfl rfl rfl (by decide +kernel) ⟨Nat.le_of_ble_eq_true rfl, Nat.le_of_ble_eq_true rfl⟩) hN hK hP hD hS hA [0] [1, 2, 3, 4] rfl rfl (by decide) (by decide) (by decide) 0 (ci := 8) rfl rfl rfl rfl hl.1 rfl (Nat.le_of_ble_eq_true rfl) dX8_heir_7 ⟨Nat.le_of_ble_eq_true rfl, Nat.le_of_ble_eq_true rfl⟩ (fun r_7 u_7 H locs hq_7 hP hD hS => ?_)
  have hq_7 : r_7 = if 0 ≤ x ∧ x < nI nm then 1 else 0 := hq_7
  have hP : va_P D vwCl [ar cI (mA 5) 10 fPU, ar cI (mA 7) 40 fDB, ar cI (mA 8) 40 fCR, ar cI (mA 14) 40 fLF, mo aM mA (nI nt) 0 td (nI nm) (nI np) isd ln rf rp sz nx kd wh pl rd rn ic mcm mcp mcr] H := hP
  have hD : va_D A [ar cI (mA 5) 10 fPU, ar cI (mA 7) 40 fDB, ar cI (mA 8) 40 fCR, ar cI (mA 14) 40 fLF, mo aM mA (nI nt) 0 td (nI nm) (nI np) isd ln rf rp sz nx kd wh pl rd rn ic mcm mcp mcr] := hD
  refine lv_if_eq (tgt := 26) hx hb dX8_heir_10 (by decide) (fun c_10 => ?_) (fun c_10 => ?_)
  · skip
    refine lv_iconst (v := 0) hx hb dX8_heir_26 (by decide) ?_
    exact ret 0 (fPU, fDB, fCR, fLF) _ _ _ _ dX8_heir_27 (Or.inl rfl) (Or.inr ⟨by first | exact fun q => man_not hq_7 c_10 q.1 | exact fun q => man_not hq_15 c_18 q.2.1 | exact fun q => q.2.2 c_23, rfl, rfl, rfl, rfl, rfl⟩) (hP.sub [4, 0, 1, 2, 3] rfl) (hD.sub [4, 0, 1, 2, 3] (by decide) rfl) hS
  · skip
    refine lv_aload_n hx hb dX8_heir_13 rfl (lv_at hl 0 rfl) ?_
    refine lv_iload_n hx hb dX8_heir_14 rfl (lv_at hl 2 rfl) ?_
    refine m_cVi (As := [.int y]) (rest := []) (wr := [ar cI (mA 5) 10 fPU, ar cI (mA 7) 40 fDB, ar cI (mA 8) 40 fCR, ar cI (mA 14) 40 fLF]) ⟨hx, hb, hml, hown, hts⟩ (c_X8_isMan l D cI cZ aM mA nt 0 td nm np isd ln rf rp sz nx kd wh pl rd rn ic mcm mcp mcr y ) (cwV 1 hts gX8_heir_X8_isMan rfl rfl rfl (by decide +kernel) ⟨Nat.le_of_ble_eq_true rfl, Nat.le_of_ble_eq_true rfl⟩) hN hK hP hD hS hA [4] [0, 1, 2, 3] rfl rfl (by decide) (by decide) (by decide) 0 (ci := 8) rfl rfl rfl rfl hl.1 rfl (Nat.le_of_ble_eq_true rfl) dX8_heir_15 ⟨Nat.le_of_ble_eq_true rfl, Nat.le_of_ble_eq_true rfl⟩ (fun r_15 u_15 H locs hq_15 hP hD hS => ?_)
    have hq_15 : r_15 = if 0 ≤ y ∧ y < nI nm then 1 else 0 := hq_15
    have hP : va_P D vwCl [ar cI (mA 5) 10 fPU, ar cI (mA 7) 40 fDB, ar cI (mA 8) 40 fCR, ar cI (mA 14) 40 fLF, mo aM mA (nI nt) 0 td (nI nm) (nI np) isd ln rf rp sz nx kd wh pl rd rn ic mcm mcp mcr] H := hP
    have hD : va_D A [ar cI (mA 5) 10 fPU, ar cI (mA 7) 40 fDB, ar cI (mA 8) 40 fCR, ar cI (mA 14) 40 fLF, mo aM mA (nI nt) 0 td (nI nm) (nI np) isd ln rf rp sz nx kd wh pl rd rn ic mcm mcp mcr] := hD
    refine lv_if_eq (tgt := 26) hx hb dX8_heir_18 (by decide) (fun c_18 => ?_) (fun c_18 => ?_)
    · skip
      refine lv_iconst (v := 0) hx hb dX8_heir_26 (by decide) ?_
      exact ret 0 (fPU, fDB, fCR, fLF) _ _ _ _ dX8_heir_27 (Or.inl rfl) (Or.inr ⟨by first | exact fun q => man_not hq_7 c_10 q.1 | exact fun q => man_not hq_15 c_18 q.2.1 | exact fun q => q.2.2 c_23, rfl, rfl, rfl, rfl, rfl⟩) (hP.sub [4, 0, 1, 2, 3] rfl) (hD.sub [4, 0, 1, 2, 3] (by decide) rfl) hS
    · skip
      refine lv_iload_n hx hb dX8_heir_21 rfl (lv_at hl 1 rfl) ?_
      refine lv_iload_n hx hb dX8_heir_22 rfl (lv_at hl 2 rfl) ?_
      refine lv_icmp_ne (tgt := 28) hx hb dX8_heir_23 (by decide) (fun c_23 => ?_) (fun c_23 => ?_)
      · skip
        refine lv_aload_n hx hb dX8_heir_28 rfl (lv_at hl 0 rfl) ?_
        refine va_get (D := D) (ci := 8) (v := .ref (mA 5)) (C := RX8) (T := TX8) (N := 44) hx hb hts inX8 hown hK hP 4 rfl rfl 5 (by decide) fl13 (fun _ h9 => h9) rfl dX8_heir_29 ?_
        refine lv_iload_n hx hb dX8_heir_32 rfl (lv_at hl 2 rfl) ?_
        refine lv_dup2_11 hx hb dX8_heir_33 rfl rfl ?_
        refine va_iald hx hb hK hP 0 0 rfl rfl (man_vp hnm hq_15 c_18) dX8_heir_34 ?_
        refine lv_aload_n hx hb dX8_heir_35 rfl (lv_at hl 0 rfl) ?_
        refine va_get (D := D) (ci := 8) (v := .ref (mA 5)) (C := RX8) (T := TX8) (N := 44) hx hb hts inX8 hown hK hP 4 rfl rfl 5 (by decide) fl13 (fun _ h9 => h9) rfl dX8_heir_36 ?_
        refine lv_iload_n hx hb dX8_heir_39 rfl (lv_at hl 1 rfl) ?_
        refine va_iald hx hb hK hP 0 0 rfl rfl (man_vp hnm hq_7 c_10) dX8_heir_40 ?_
        refine lv_iadd hx hb dX8_heir_41 ?_
        refine va_iast (x := ((fPU (ix y)) + (fPU (ix x)))) hx hb hK hP hD hS 0 0 rfl rfl (man_vp hnm hq_15 c_18) dX8_heir_42 (fun H locs hP hD hS => ?_)
        have hP : va_P D vwCl [ar cI (mA 5) 10 (upd fPU (ix y) ((fPU (ix y)) + (fPU (ix x)))), ar cI (mA 7) 40 fDB, ar cI (mA 8) 40 fCR, ar cI (mA 14) 40 fLF, mo aM mA (nI nt) 0 td (nI nm) (nI np) isd ln rf rp sz nx kd wh pl rd rn ic mcm mcp mcr] H := hP
        have hD : va_D A [ar cI (mA 5) 10 (upd fPU (ix y) ((fPU (ix y)) + (fPU (ix x)))), ar cI (mA 7) 40 fDB, ar cI (mA 8) 40 fCR, ar cI (mA 14) 40 fLF, mo aM mA (nI nt) 0 td (nI nm) (nI np) isd ln rf rp sz nx kd wh pl rd rn ic mcm mcp mcr] := hD
        refine lv_aload_n hx hb dX8_heir_43 rfl (lv_at hl 0 rfl) ?_
        refine va_get (D := D) (ci := 8) (v := .ref (mA 5)) (C := RX8) (T := TX8) (N := 44) hx hb hts inX8 hown hK hP 4 rfl rfl 5 (by decide) fl13 (fun _ h9 => h9) rfl dX8_heir_44 ?_
        refine lv_iload_n hx hb dX8_heir_47 rfl (lv_at hl 1 rfl) ?_
        refine lv_iconst (v := 0) hx hb dX8_heir_48 (by decide) ?_
        refine va_iast (x := 0) hx hb hK hP hD hS 0 0 rfl rfl (man_vp hnm hq_7 c_10) dX8_heir_49 (fun H locs hP hD hS => ?_)
        have hP : va_P D vwCl [ar cI (mA 5) 10 (upd (upd fPU (ix y) ((fPU (ix y)) + (fPU (ix x)))) (ix x) 0), ar cI (mA 7) 40 fDB, ar cI (mA 8) 40 fCR, ar cI (mA 14) 40 fLF, mo aM mA (nI nt) 0 td (nI nm) (nI np) isd ln rf rp sz nx kd wh pl rd rn ic mcm mcp mcr] H := hP
        have hD : va_D A [ar cI (mA 5) 10 (upd (upd fPU (ix y) ((fPU (ix y)) + (fPU (ix x)))) (ix x) 0), ar cI (mA 7) 40 fDB, ar cI (mA 8) 40 fCR, ar cI (mA 14) 40 fLF, mo aM mA (nI nt) 0 td (nI nm) (nI np) isd ln rf rp sz nx kd wh pl rd rn ic mcm mcp mcr] := hD
        refine lv_iconst (v := 0) hx hb dX8_heir_50 (by decide) ?_
        refine lv_istore_n (lv' := [(3, .int 0), (0, .ref aM), (1, .int x), (2, .int y)]) hx hb dX8_heir_51 rfl hl (by decide) rfl (fun ls hl => ?_)
        have L_52 : ∀ (n_52 : Nat) (k : Nat) (hDB : Nat → Int32) (hCR : Nat → Int32) (hLF : Nat → Int32), (np - k < n_52) → (k ≤ np) → (hDB = fil (rep x y fDB) fDB k) → (hCR = fil (rep x y fCR) fCR k) → (hLF = fil (repL x y fDB fCR fLF) fLF k) → ∀ (H : Heap) (locs : List Loc), va_P D vwCl [ar cI (mA 5) 10 (upd (upd fPU (ix y) ((fPU (ix y)) + (fPU (ix x)))) (ix x) 0), ar cI (mA 7) 40 hDB, ar cI (mA 8) 40 hCR, ar cI (mA 14) 40 hLF, mo aM mA (nI nt) 0 td (nI nm) (nI np) isd ln rf rp sz nx kd wh pl rd rn ic mcm mcp mcr] H → va_D A [ar cI (mA 5) 10 (upd (upd fPU (ix y) ((fPU (ix y)) + (fPU (ix x)))) (ix x) 0), ar cI (mA 7) 40 hDB, ar cI (mA 8) 40 hCR, ar cI (mA 14) 40 hLF, mo aM mA (nI nt) 0 td (nI nm) (nI np) isd ln rf rp sz nx kd wh pl rd rn ic mcm mcp mcr] → va_S A s.heap H locs → ∀ ls : Array Slot, lv_has ls 5 [(0, .ref aM), (1, .int x), (2, .int y), (3, .int (nI k))] → W p l e r_c_X8_heir s m (([.ref aM, .int x, .int y] : List Value).toArray) below meth c H locs 0 0 Q (F0 m 52 ls []) := by
          intro n_52
          induction n_52 with
          | zero => intro k hDB hCR hLF hfu; exact absurd hfu (Nat.not_lt_zero _)
          | succ n_52 ih_52 =>
            intro k hDB hCR hLF hfu_52 hk h1 h2 h3 H locs hP hD hS ls hl
            have e1 := fil_at h1
            have e2 := fil_at h2
            have e3 := fil_at h3
            refine lv_iload_n hx hb dX8_heir_52 rfl (lv_at hl 3 rfl) ?_
            refine lv_aload_n hx hb dX8_heir_53 rfl (lv_at hl 0 rfl) ?_
            refine va_get (D := D) (ci := 8) (v := .int (nI np)) (C := RX8) (T := TX8) (N := 44) hx hb hts inX8 hown hK hP 4 rfl rfl 6 (by decide) fl101 (fun _ h9 => h9) rfl dX8_heir_54 ?_
            refine lv_icmp_ge (tgt := 159) hx hb dX8_heir_57 (by decide) (fun c_57 => ?_) (fun c_57 => ?_)
            · skip
              have k_57 : np ≤ k := (nI_leI (a := np) (b := k) (by omega) (by omega)).mp c_57
              refine lv_iconst (v := 1) hx hb dX8_heir_159 (by decide) ?_
              exact ret 1 ((upd (upd fPU (ix y) ((fPU (ix y)) + (fPU (ix x)))) (ix x) 0), hDB, hCR, hLF) _ _ _ _ dX8_heir_160 (Or.inr rfl) (by have e : k = np := (by omega); subst e; exact Or.inl ⟨⟨man_in hq_7 c_10, man_in hq_15 c_18, c_23⟩, rfl, rfl, h1, h2, h3⟩) (hP.sub [4, 0, 1, 2, 3] rfl) (hD.sub [4, 0, 1, 2, 3] (by decide) rfl) hS
            · skip
              have k_57 : ¬ np ≤ k := fun h9 => c_57 ((nI_leI (a := np) (b := k) (by omega) (by omega)).mpr h9)
              refine lv_aload_n hx hb dX8_heir_60 rfl (lv_at hl 0 rfl) ?_
              refine va_get (D := D) (ci := 8) (v := .ref (mA 7)) (C := RX8) (T := TX8) (N := 44) hx hb hts inX8 hown hK hP 4 rfl rfl 7 (by decide) fl16 (fun _ h9 => h9) rfl dX8_heir_61 ?_
              refine lv_iload_n hx hb dX8_heir_64 rfl (lv_at hl 3 rfl) ?_
              refine m_iald (k := k) hx hb hK hP 1 0 rfl rfl (by omega) (by decide) dX8_heir_65 ?_
              refine lv_iload_n hx hb dX8_heir_66 rfl (lv_at hl 1 rfl) ?_
              refine lv_icmp_ne (tgt := 80) hx hb dX8_heir_67 (by decide) (fun c_67 => ?_) (fun c_67 => ?_)
              · skip
                refine lv_aload_n hx hb dX8_heir_80 rfl (lv_at hl 0 rfl) ?_
                refine va_get (D := D) (ci := 8) (v := .ref (mA 7)) (C := RX8) (T := TX8) (N := 44) hx hb hts inX8 hown hK hP 4 rfl rfl 7 (by decide) fl16 (fun _ h9 => h9) rfl dX8_heir_81 ?_
                refine lv_iload_n hx hb dX8_heir_84 rfl (lv_at hl 3 rfl) ?_
                refine m_iald (k := k) hx hb hK hP 1 0 rfl rfl (by omega) (by decide) dX8_heir_85 ?_
                refine lv_iload_n hx hb dX8_heir_86 rfl (lv_at hl 2 rfl) ?_
                refine lv_icmp_ne (tgt := 104) hx hb dX8_heir_87 (by decide) (fun c_87 => ?_) (fun c_87 => ?_)
                · skip
                  refine lv_iconst (v := 0) hx hb dX8_heir_104 (by decide) ?_
                  refine lv_istore (lv' := [(4, .int 0), (0, .ref aM), (1, .int x), (2, .int y), (3, .int (nI k))]) hx hb dX8_heir_105 hl (by decide) rfl (fun ls hl => ?_)
                  refine lv_iload hx hb dX8_heir_107 (lv_at hl 0 rfl) ?_
                  refine lv_if_eq (tgt := 119) hx hb dX8_heir_109 (by decide) (fun c_109 => ?_) (fun c_109 => ?_)
                  · skip
                    refine lv_aload_n hx hb dX8_heir_119 rfl (lv_at hl 1 rfl) ?_
                    refine va_get (D := D) (ci := 8) (v := .ref (mA 7)) (C := RX8) (T := TX8) (N := 44) hx hb hts inX8 hown hK hP 4 rfl rfl 7 (by decide) fl16 (fun _ h9 => h9) rfl dX8_heir_120 ?_
                    refine lv_iload_n hx hb dX8_heir_123 rfl (lv_at hl 4 rfl) ?_
                    refine m_iald (k := k) hx hb hK hP 1 0 rfl rfl (by omega) (by decide) dX8_heir_124 ?_
                    refine lv_iload_n hx hb dX8_heir_125 rfl (lv_at hl 2 rfl) ?_
                    refine lv_icmp_ne (tgt := 136) hx hb dX8_heir_126 (by decide) (fun c_126 => ?_) (fun c_126 => ?_)
                    · skip
                      refine lv_aload_n hx hb dX8_heir_136 rfl (lv_at hl 1 rfl) ?_
                      refine va_get (D := D) (ci := 8) (v := .ref (mA 8)) (C := RX8) (T := TX8) (N := 44) hx hb hts inX8 hown hK hP 4 rfl rfl 8 (by decide) fl19 (fun _ h9 => h9) rfl dX8_heir_137 ?_
                      refine lv_iload_n hx hb dX8_heir_140 rfl (lv_at hl 4 rfl) ?_
                      refine m_iald (k := k) hx hb hK hP 2 0 rfl rfl (by omega) (by decide) dX8_heir_141 ?_
                      refine lv_iload_n hx hb dX8_heir_142 rfl (lv_at hl 2 rfl) ?_
                      refine lv_icmp_ne (tgt := 153) hx hb dX8_heir_143 (by decide) (fun c_143 => ?_) (fun c_143 => ?_)
                      · skip
                        refine lv_iinc (v := (nI (k + 1))) (lv' := [(3, .int (nI (k + 1))), (4, .int 0), (0, .ref aM), (1, .int x), (2, .int y)]) hx hb dX8_heir_153 hl (k := 4) rfl (nI_inc k 1 (by decide)) (by decide) rfl (fun ls hl => ?_)
                        refine lv_goto (tgt := 52) hx hb dX8_heir_156 (by decide) ?_
                        have hrl := rem_L (x := x) (y := y) (k := k) c_23 (hself k (by omega))
                        exact ih_52 (k + 1) hDB hCR hLF (by omega) (by omega) (by first | exact fil_step h1 (by simp_all [rep]) | exact fil_skip h1 (by simp_all [rep])) (by first | exact fil_step h2 (by simp_all [rep]) | exact fil_skip h2 (by simp_all [rep])) (by first | exact fil_step h3 (by rw [hrl]; grind) | exact fil_skip h3 (by rw [hrl]; grind)) _ _ (hP) (hD) hS ls (lv_sub hl [2, 3, 4, 0] rfl)
                      · skip
                        refine lv_aload_n hx hb dX8_heir_146 rfl (lv_at hl 1 rfl) ?_
                        refine va_get (D := D) (ci := 8) (v := .ref (mA 8)) (C := RX8) (T := TX8) (N := 44) hx hb hts inX8 hown hK hP 4 rfl rfl 8 (by decide) fl19 (fun _ h9 => h9) rfl dX8_heir_147 ?_
                        refine lv_iload_n hx hb dX8_heir_150 rfl (lv_at hl 4 rfl) ?_
                        refine lv_iload_n hx hb dX8_heir_151 rfl (lv_at hl 3 rfl) ?_
                        refine m_iast (k := k) (x := y) hx hb hK hP hD hS 2 0 rfl rfl (by omega) (by decide) dX8_heir_152 (fun H locs hP hD hS => ?_)
                        have hP : va_P D vwCl [ar cI (mA 5) 10 (upd (upd fPU (ix y) ((fPU (ix y)) + (fPU (ix x)))) (ix x) 0), ar cI (mA 7) 40 hDB, ar cI (mA 8) 40 (upd hCR k y), ar cI (mA 14) 40 hLF, mo aM mA (nI nt) 0 td (nI nm) (nI np) isd ln rf rp sz nx kd wh pl rd rn ic mcm mcp mcr] H := hP
                        have hD : va_D A [ar cI (mA 5) 10 (upd (upd fPU (ix y) ((fPU (ix y)) + (fPU (ix x)))) (ix x) 0), ar cI (mA 7) 40 hDB, ar cI (mA 8) 40 (upd hCR k y), ar cI (mA 14) 40 hLF, mo aM mA (nI nt) 0 td (nI nm) (nI np) isd ln rf rp sz nx kd wh pl rd rn ic mcm mcp mcr] := hD
                        refine lv_iinc (v := (nI (k + 1))) (lv' := [(3, .int (nI (k + 1))), (4, .int 0), (0, .ref aM), (1, .int x), (2, .int y)]) hx hb dX8_heir_153 hl (k := 4) rfl (nI_inc k 1 (by decide)) (by decide) rfl (fun ls hl => ?_)
                        refine lv_goto (tgt := 52) hx hb dX8_heir_156 (by decide) ?_
                        have hrl := rem_L (x := x) (y := y) (k := k) c_23 (hself k (by omega))
                        exact ih_52 (k + 1) hDB (upd hCR k y) hLF (by omega) (by omega) (by first | exact fil_step h1 (by simp_all [rep]) | exact fil_skip h1 (by simp_all [rep])) (by first | exact fil_step h2 (by simp_all [rep]) | exact fil_skip h2 (by simp_all [rep])) (by first | exact fil_step h3 (by rw [hrl]; grind) | exact fil_skip h3 (by rw [hrl]; grind)) _ _ (hP) (hD) hS ls (lv_sub hl [2, 3, 4, 0] rfl)
                    · skip
                      refine lv_aload_n hx hb dX8_heir_129 rfl (lv_at hl 1 rfl) ?_
                      refine va_get (D := D) (ci := 8) (v := .ref (mA 7)) (C := RX8) (T := TX8) (N := 44) hx hb hts inX8 hown hK hP 4 rfl rfl 7 (by decide) fl16 (fun _ h9 => h9) rfl dX8_heir_130 ?_
                      refine lv_iload_n hx hb dX8_heir_133 rfl (lv_at hl 4 rfl) ?_
                      refine lv_iload_n hx hb dX8_heir_134 rfl (lv_at hl 3 rfl) ?_
                      refine m_iast (k := k) (x := y) hx hb hK hP hD hS 1 0 rfl rfl (by omega) (by decide) dX8_heir_135 (fun H locs hP hD hS => ?_)
                      have hP : va_P D vwCl [ar cI (mA 5) 10 (upd (upd fPU (ix y) ((fPU (ix y)) + (fPU (ix x)))) (ix x) 0), ar cI (mA 7) 40 (upd hDB k y), ar cI (mA 8) 40 hCR, ar cI (mA 14) 40 hLF, mo aM mA (nI nt) 0 td (nI nm) (nI np) isd ln rf rp sz nx kd wh pl rd rn ic mcm mcp mcr] H := hP
                      have hD : va_D A [ar cI (mA 5) 10 (upd (upd fPU (ix y) ((fPU (ix y)) + (fPU (ix x)))) (ix x) 0), ar cI (mA 7) 40 (upd hDB k y), ar cI (mA 8) 40 hCR, ar cI (mA 14) 40 hLF, mo aM mA (nI nt) 0 td (nI nm) (nI np) isd ln rf rp sz nx kd wh pl rd rn ic mcm mcp mcr] := hD
                      refine lv_aload_n hx hb dX8_heir_136 rfl (lv_at hl 1 rfl) ?_
                      refine va_get (D := D) (ci := 8) (v := .ref (mA 8)) (C := RX8) (T := TX8) (N := 44) hx hb hts inX8 hown hK hP 4 rfl rfl 8 (by decide) fl19 (fun _ h9 => h9) rfl dX8_heir_137 ?_
                      refine lv_iload_n hx hb dX8_heir_140 rfl (lv_at hl 4 rfl) ?_
                      refine m_iald (k := k) hx hb hK hP 2 0 rfl rfl (by omega) (by decide) dX8_heir_141 ?_
                      refine lv_iload_n hx hb dX8_heir_142 rfl (lv_at hl 2 rfl) ?_
                      refine lv_icmp_ne (tgt := 153) hx hb dX8_heir_143 (by decide) (fun c_143 => ?_) (fun c_143 => ?_)
                      · skip
                        refine lv_iinc (v := (nI (k + 1))) (lv' := [(3, .int (nI (k + 1))), (4, .int 0), (0, .ref aM), (1, .int x), (2, .int y)]) hx hb dX8_heir_153 hl (k := 4) rfl (nI_inc k 1 (by decide)) (by decide) rfl (fun ls hl => ?_)
                        refine lv_goto (tgt := 52) hx hb dX8_heir_156 (by decide) ?_
                        have hrl := rem_L (x := x) (y := y) (k := k) c_23 (hself k (by omega))
                        exact ih_52 (k + 1) (upd hDB k y) hCR hLF (by omega) (by omega) (by first | exact fil_step h1 (by simp_all [rep]) | exact fil_skip h1 (by simp_all [rep])) (by first | exact fil_step h2 (by simp_all [rep]) | exact fil_skip h2 (by simp_all [rep])) (by first | exact fil_step h3 (by rw [hrl]; grind) | exact fil_skip h3 (by rw [hrl]; grind)) _ _ (hP) (hD) hS ls (lv_sub hl [2, 3, 4, 0] rfl)
                      · skip
                        refine lv_aload_n hx hb dX8_heir_146 rfl (lv_at hl 1 rfl) ?_
                        refine va_get (D := D) (ci := 8) (v := .ref (mA 8)) (C := RX8) (T := TX8) (N := 44) hx hb hts inX8 hown hK hP 4 rfl rfl 8 (by decide) fl19 (fun _ h9 => h9) rfl dX8_heir_147 ?_
                        refine lv_iload_n hx hb dX8_heir_150 rfl (lv_at hl 4 rfl) ?_
                        refine lv_iload_n hx hb dX8_heir_151 rfl (lv_at hl 3 rfl) ?_
                        refine m_iast (k := k) (x := y) hx hb hK hP hD hS 2 0 rfl rfl (by omega) (by decide) dX8_heir_152 (fun H locs hP hD hS => ?_)
                        have hP : va_P D vwCl [ar cI (mA 5) 10 (upd (upd fPU (ix y) ((fPU (ix y)) + (fPU (ix x)))) (ix x) 0), ar cI (mA 7) 40 (upd hDB k y), ar cI (mA 8) 40 (upd hCR k y), ar cI (mA 14) 40 hLF, mo aM mA (nI nt) 0 td (nI nm) (nI np) isd ln rf rp sz nx kd wh pl rd rn ic mcm mcp mcr] H := hP
                        have hD : va_D A [ar cI (mA 5) 10 (upd (upd fPU (ix y) ((fPU (ix y)) + (fPU (ix x)))) (ix x) 0), ar cI (mA 7) 40 (upd hDB k y), ar cI (mA 8) 40 (upd hCR k y), ar cI (mA 14) 40 hLF, mo aM mA (nI nt) 0 td (nI nm) (nI np) isd ln rf rp sz nx kd wh pl rd rn ic mcm mcp mcr] := hD
                        refine lv_iinc (v := (nI (k + 1))) (lv' := [(3, .int (nI (k + 1))), (4, .int 0), (0, .ref aM), (1, .int x), (2, .int y)]) hx hb dX8_heir_153 hl (k := 4) rfl (nI_inc k 1 (by decide)) (by decide) rfl (fun ls hl => ?_)
                        refine lv_goto (tgt := 52) hx hb dX8_heir_156 (by decide) ?_
                        have hrl := rem_L (x := x) (y := y) (k := k) c_23 (hself k (by omega))
                        exact ih_52 (k + 1) (upd hDB k y) (upd hCR k y) hLF (by omega) (by omega) (by first | exact fil_step h1 (by simp_all [rep]) | exact fil_skip h1 (by simp_all [rep])) (by first | exact fil_step h2 (by simp_all [rep]) | exact fil_skip h2 (by simp_all [rep])) (by first | exact fil_step h3 (by rw [hrl]; grind) | exact fil_skip h3 (by rw [hrl]; grind)) _ _ (hP) (hD) hS ls (lv_sub hl [2, 3, 4, 0] rfl)
                  · skip
                    exact absurd c_109 (by decide)
                · skip
                  refine lv_aload_n hx hb dX8_heir_90 rfl (lv_at hl 0 rfl) ?_
                  refine va_get (D := D) (ci := 8) (v := .ref (mA 8)) (C := RX8) (T := TX8) (N := 44) hx hb hts inX8 hown hK hP 4 rfl rfl 8 (by decide) fl19 (fun _ h9 => h9) rfl dX8_heir_91 ?_
                  refine lv_iload_n hx hb dX8_heir_94 rfl (lv_at hl 3 rfl) ?_
                  refine m_iald (k := k) hx hb hK hP 2 0 rfl rfl (by omega) (by decide) dX8_heir_95 ?_
                  refine lv_iload_n hx hb dX8_heir_96 rfl (lv_at hl 1 rfl) ?_
                  refine lv_icmp_ne (tgt := 104) hx hb dX8_heir_97 (by decide) (fun c_97 => ?_) (fun c_97 => ?_)
                  · skip
                    refine lv_iconst (v := 0) hx hb dX8_heir_104 (by decide) ?_
                    refine lv_istore (lv' := [(4, .int 0), (0, .ref aM), (1, .int x), (2, .int y), (3, .int (nI k))]) hx hb dX8_heir_105 hl (by decide) rfl (fun ls hl => ?_)
                    refine lv_iload hx hb dX8_heir_107 (lv_at hl 0 rfl) ?_
                    refine lv_if_eq (tgt := 119) hx hb dX8_heir_109 (by decide) (fun c_109 => ?_) (fun c_109 => ?_)
                    · skip
                      refine lv_aload_n hx hb dX8_heir_119 rfl (lv_at hl 1 rfl) ?_
                      refine va_get (D := D) (ci := 8) (v := .ref (mA 7)) (C := RX8) (T := TX8) (N := 44) hx hb hts inX8 hown hK hP 4 rfl rfl 7 (by decide) fl16 (fun _ h9 => h9) rfl dX8_heir_120 ?_
                      refine lv_iload_n hx hb dX8_heir_123 rfl (lv_at hl 4 rfl) ?_
                      refine m_iald (k := k) hx hb hK hP 1 0 rfl rfl (by omega) (by decide) dX8_heir_124 ?_
                      refine lv_iload_n hx hb dX8_heir_125 rfl (lv_at hl 2 rfl) ?_
                      refine lv_icmp_ne (tgt := 136) hx hb dX8_heir_126 (by decide) (fun c_126 => ?_) (fun c_126 => ?_)
                      · skip
                        refine lv_aload_n hx hb dX8_heir_136 rfl (lv_at hl 1 rfl) ?_
                        refine va_get (D := D) (ci := 8) (v := .ref (mA 8)) (C := RX8) (T := TX8) (N := 44) hx hb hts inX8 hown hK hP 4 rfl rfl 8 (by decide) fl19 (fun _ h9 => h9) rfl dX8_heir_137 ?_
                        refine lv_iload_n hx hb dX8_heir_140 rfl (lv_at hl 4 rfl) ?_
                        refine m_iald (k := k) hx hb hK hP 2 0 rfl rfl (by omega) (by decide) dX8_heir_141 ?_
                        refine lv_iload_n hx hb dX8_heir_142 rfl (lv_at hl 2 rfl) ?_
                        refine lv_icmp_ne (tgt := 153) hx hb dX8_heir_143 (by decide) (fun c_143 => ?_) (fun c_143 => ?_)
                        · skip
                          refine lv_iinc (v := (nI (k + 1))) (lv' := [(3, .int (nI (k + 1))), (4, .int 0), (0, .ref aM), (1, .int x), (2, .int y)]) hx hb dX8_heir_153 hl (k := 4) rfl (nI_inc k 1 (by decide)) (by decide) rfl (fun ls hl => ?_)
                          refine lv_goto (tgt := 52) hx hb dX8_heir_156 (by decide) ?_
                          have hrl := rem_L (x := x) (y := y) (k := k) c_23 (hself k (by omega))
                          exact ih_52 (k + 1) hDB hCR hLF (by omega) (by omega) (by first | exact fil_step h1 (by simp_all [rep]) | exact fil_skip h1 (by simp_all [rep])) (by first | exact fil_step h2 (by simp_all [rep]) | exact fil_skip h2 (by simp_all [rep])) (by first | exact fil_step h3 (by rw [hrl]; grind) | exact fil_skip h3 (by rw [hrl]; grind)) _ _ (hP) (hD) hS ls (lv_sub hl [2, 3, 4, 0] rfl)
                        · skip
                          refine lv_aload_n hx hb dX8_heir_146 rfl (lv_at hl 1 rfl) ?_
                          refine va_get (D := D) (ci := 8) (v := .ref (mA 8)) (C := RX8) (T := TX8) (N := 44) hx hb hts inX8 hown hK hP 4 rfl rfl 8 (by decide) fl19 (fun _ h9 => h9) rfl dX8_heir_147 ?_
                          refine lv_iload_n hx hb dX8_heir_150 rfl (lv_at hl 4 rfl) ?_
                          refine lv_iload_n hx hb dX8_heir_151 rfl (lv_at hl 3 rfl) ?_
                          refine m_iast (k := k) (x := y) hx hb hK hP hD hS 2 0 rfl rfl (by omega) (by decide) dX8_heir_152 (fun H locs hP hD hS => ?_)
                          have hP : va_P D vwCl [ar cI (mA 5) 10 (upd (upd fPU (ix y) ((fPU (ix y)) + (fPU (ix x)))) (ix x) 0), ar cI (mA 7) 40 hDB, ar cI (mA 8) 40 (upd hCR k y), ar cI (mA 14) 40 hLF, mo aM mA (nI nt) 0 td (nI nm) (nI np) isd ln rf rp sz nx kd wh pl rd rn ic mcm mcp mcr] H := hP
                          have hD : va_D A [ar cI (mA 5) 10 (upd (upd fPU (ix y) ((fPU (ix y)) + (fPU (ix x)))) (ix x) 0), ar cI (mA 7) 40 hDB, ar cI (mA 8) 40 (upd hCR k y), ar cI (mA 14) 40 hLF, mo aM mA (nI nt) 0 td (nI nm) (nI np) isd ln rf rp sz nx kd wh pl rd rn ic mcm mcp mcr] := hD
                          refine lv_iinc (v := (nI (k + 1))) (lv' := [(3, .int (nI (k + 1))), (4, .int 0), (0, .ref aM), (1, .int x), (2, .int y)]) hx hb dX8_heir_153 hl (k := 4) rfl (nI_inc k 1 (by decide)) (by decide) rfl (fun ls hl => ?_)
                          refine lv_goto (tgt := 52) hx hb dX8_heir_156 (by decide) ?_
                          have hrl := rem_L (x := x) (y := y) (k := k) c_23 (hself k (by omega))
                          exact ih_52 (k + 1) hDB (upd hCR k y) hLF (by omega) (by omega) (by first | exact fil_step h1 (by simp_all [rep]) | exact fil_skip h1 (by simp_all [rep])) (by first | exact fil_step h2 (by simp_all [rep]) | exact fil_skip h2 (by simp_all [rep])) (by first | exact fil_step h3 (by rw [hrl]; grind) | exact fil_skip h3 (by rw [hrl]; grind)) _ _ (hP) (hD) hS ls (lv_sub hl [2, 3, 4, 0] rfl)
                      · skip
                        refine lv_aload_n hx hb dX8_heir_129 rfl (lv_at hl 1 rfl) ?_
                        refine va_get (D := D) (ci := 8) (v := .ref (mA 7)) (C := RX8) (T := TX8) (N := 44) hx hb hts inX8 hown hK hP 4 rfl rfl 7 (by decide) fl16 (fun _ h9 => h9) rfl dX8_heir_130 ?_
                        refine lv_iload_n hx hb dX8_heir_133 rfl (lv_at hl 4 rfl) ?_
                        refine lv_iload_n hx hb dX8_heir_134 rfl (lv_at hl 3 rfl) ?_
                        refine m_iast (k := k) (x := y) hx hb hK hP hD hS 1 0 rfl rfl (by omega) (by decide) dX8_heir_135 (fun H locs hP hD hS => ?_)
                        have hP : va_P D vwCl [ar cI (mA 5) 10 (upd (upd fPU (ix y) ((fPU (ix y)) + (fPU (ix x)))) (ix x) 0), ar cI (mA 7) 40 (upd hDB k y), ar cI (mA 8) 40 hCR, ar cI (mA 14) 40 hLF, mo aM mA (nI nt) 0 td (nI nm) (nI np) isd ln rf rp sz nx kd wh pl rd rn ic mcm mcp mcr] H := hP
                        have hD : va_D A [ar cI (mA 5) 10 (upd (upd fPU (ix y) ((fPU (ix y)) + (fPU (ix x)))) (ix x) 0), ar cI (mA 7) 40 (upd hDB k y), ar cI (mA 8) 40 hCR, ar cI (mA 14) 40 hLF, mo aM mA (nI nt) 0 td (nI nm) (nI np) isd ln rf rp sz nx kd wh pl rd rn ic mcm mcp mcr] := hD
                        refine lv_aload_n hx hb dX8_heir_136 rfl (lv_at hl 1 rfl) ?_
                        refine va_get (D := D) (ci := 8) (v := .ref (mA 8)) (C := RX8) (T := TX8) (N := 44) hx hb hts inX8 hown hK hP 4 rfl rfl 8 (by decide) fl19 (fun _ h9 => h9) rfl dX8_heir_137 ?_
                        refine lv_iload_n hx hb dX8_heir_140 rfl (lv_at hl 4 rfl) ?_
                        refine m_iald (k := k) hx hb hK hP 2 0 rfl rfl (by omega) (by decide) dX8_heir_141 ?_
                        refine lv_iload_n hx hb dX8_heir_142 rfl (lv_at hl 2 rfl) ?_
                        refine lv_icmp_ne (tgt := 153) hx hb dX8_heir_143 (by decide) (fun c_143 => ?_) (fun c_143 => ?_)
                        · skip
                          refine lv_iinc (v := (nI (k + 1))) (lv' := [(3, .int (nI (k + 1))), (4, .int 0), (0, .ref aM), (1, .int x), (2, .int y)]) hx hb dX8_heir_153 hl (k := 4) rfl (nI_inc k 1 (by decide)) (by decide) rfl (fun ls hl => ?_)
                          refine lv_goto (tgt := 52) hx hb dX8_heir_156 (by decide) ?_
                          have hrl := rem_L (x := x) (y := y) (k := k) c_23 (hself k (by omega))
                          exact ih_52 (k + 1) (upd hDB k y) hCR hLF (by omega) (by omega) (by first | exact fil_step h1 (by simp_all [rep]) | exact fil_skip h1 (by simp_all [rep])) (by first | exact fil_step h2 (by simp_all [rep]) | exact fil_skip h2 (by simp_all [rep])) (by first | exact fil_step h3 (by rw [hrl]; grind) | exact fil_skip h3 (by rw [hrl]; grind)) _ _ (hP) (hD) hS ls (lv_sub hl [2, 3, 4, 0] rfl)
                        · skip
                          refine lv_aload_n hx hb dX8_heir_146 rfl (lv_at hl 1 rfl) ?_
                          refine va_get (D := D) (ci := 8) (v := .ref (mA 8)) (C := RX8) (T := TX8) (N := 44) hx hb hts inX8 hown hK hP 4 rfl rfl 8 (by decide) fl19 (fun _ h9 => h9) rfl dX8_heir_147 ?_
                          refine lv_iload_n hx hb dX8_heir_150 rfl (lv_at hl 4 rfl) ?_
                          refine lv_iload_n hx hb dX8_heir_151 rfl (lv_at hl 3 rfl) ?_
                          refine m_iast (k := k) (x := y) hx hb hK hP hD hS 2 0 rfl rfl (by omega) (by decide) dX8_heir_152 (fun H locs hP hD hS => ?_)
                          have hP : va_P D vwCl [ar cI (mA 5) 10 (upd (upd fPU (ix y) ((fPU (ix y)) + (fPU (ix x)))) (ix x) 0), ar cI (mA 7) 40 (upd hDB k y), ar cI (mA 8) 40 (upd hCR k y), ar cI (mA 14) 40 hLF, mo aM mA (nI nt) 0 td (nI nm) (nI np) isd ln rf rp sz nx kd wh pl rd rn ic mcm mcp mcr] H := hP
                          have hD : va_D A [ar cI (mA 5) 10 (upd (upd fPU (ix y) ((fPU (ix y)) + (fPU (ix x)))) (ix x) 0), ar cI (mA 7) 40 (upd hDB k y), ar cI (mA 8) 40 (upd hCR k y), ar cI (mA 14) 40 hLF, mo aM mA (nI nt) 0 td (nI nm) (nI np) isd ln rf rp sz nx kd wh pl rd rn ic mcm mcp mcr] := hD
                          refine lv_iinc (v := (nI (k + 1))) (lv' := [(3, .int (nI (k + 1))), (4, .int 0), (0, .ref aM), (1, .int x), (2, .int y)]) hx hb dX8_heir_153 hl (k := 4) rfl (nI_inc k 1 (by decide)) (by decide) rfl (fun ls hl => ?_)
                          refine lv_goto (tgt := 52) hx hb dX8_heir_156 (by decide) ?_
                          have hrl := rem_L (x := x) (y := y) (k := k) c_23 (hself k (by omega))
                          exact ih_52 (k + 1) (upd hDB k y) (upd hCR k y) hLF (by omega) (by omega) (by first | exact fil_step h1 (by simp_all [rep]) | exact fil_skip h1 (by simp_all [rep])) (by first | exact fil_step h2 (by simp_all [rep]) | exact fil_skip h2 (by simp_all [rep])) (by first | exact fil_step h3 (by rw [hrl]; grind) | exact fil_skip h3 (by rw [hrl]; grind)) _ _ (hP) (hD) hS ls (lv_sub hl [2, 3, 4, 0] rfl)
                    · skip
                      exact absurd c_109 (by decide)
                  · skip
                    refine lv_iconst (v := 1) hx hb dX8_heir_100 (by decide) ?_
                    refine lv_goto (tgt := 105) hx hb dX8_heir_101 (by decide) ?_
                    refine lv_istore (lv' := [(4, .int 1), (0, .ref aM), (1, .int x), (2, .int y), (3, .int (nI k))]) hx hb dX8_heir_105 hl (by decide) rfl (fun ls hl => ?_)
                    refine lv_iload hx hb dX8_heir_107 (lv_at hl 0 rfl) ?_
                    refine lv_if_eq (tgt := 119) hx hb dX8_heir_109 (by decide) (fun c_109 => ?_) (fun c_109 => ?_)
                    · skip
                      exact absurd c_109 (by decide)
                    · skip
                      refine lv_aload_n hx hb dX8_heir_112 rfl (lv_at hl 1 rfl) ?_
                      refine va_get (D := D) (ci := 8) (v := .ref (mA 14)) (C := RX8) (T := TX8) (N := 44) hx hb hts inX8 hown hK hP 4 rfl rfl 14 (by decide) fl37 (fun _ h9 => h9) rfl dX8_heir_113 ?_
                      refine lv_iload_n hx hb dX8_heir_116 rfl (lv_at hl 4 rfl) ?_
                      refine lv_iconst (v := 0) hx hb dX8_heir_117 (by decide) ?_
                      refine m_iast (k := k) (x := 0) hx hb hK hP hD hS 3 0 rfl rfl (by omega) (by decide) dX8_heir_118 (fun H locs hP hD hS => ?_)
                      have hP : va_P D vwCl [ar cI (mA 5) 10 (upd (upd fPU (ix y) ((fPU (ix y)) + (fPU (ix x)))) (ix x) 0), ar cI (mA 7) 40 hDB, ar cI (mA 8) 40 hCR, ar cI (mA 14) 40 (upd hLF k 0), mo aM mA (nI nt) 0 td (nI nm) (nI np) isd ln rf rp sz nx kd wh pl rd rn ic mcm mcp mcr] H := hP
                      have hD : va_D A [ar cI (mA 5) 10 (upd (upd fPU (ix y) ((fPU (ix y)) + (fPU (ix x)))) (ix x) 0), ar cI (mA 7) 40 hDB, ar cI (mA 8) 40 hCR, ar cI (mA 14) 40 (upd hLF k 0), mo aM mA (nI nt) 0 td (nI nm) (nI np) isd ln rf rp sz nx kd wh pl rd rn ic mcm mcp mcr] := hD
                      refine lv_aload_n hx hb dX8_heir_119 rfl (lv_at hl 1 rfl) ?_
                      refine va_get (D := D) (ci := 8) (v := .ref (mA 7)) (C := RX8) (T := TX8) (N := 44) hx hb hts inX8 hown hK hP 4 rfl rfl 7 (by decide) fl16 (fun _ h9 => h9) rfl dX8_heir_120 ?_
                      refine lv_iload_n hx hb dX8_heir_123 rfl (lv_at hl 4 rfl) ?_
                      refine m_iald (k := k) hx hb hK hP 1 0 rfl rfl (by omega) (by decide) dX8_heir_124 ?_
                      refine lv_iload_n hx hb dX8_heir_125 rfl (lv_at hl 2 rfl) ?_
                      refine lv_icmp_ne (tgt := 136) hx hb dX8_heir_126 (by decide) (fun c_126 => ?_) (fun c_126 => ?_)
                      · skip
                        refine lv_aload_n hx hb dX8_heir_136 rfl (lv_at hl 1 rfl) ?_
                        refine va_get (D := D) (ci := 8) (v := .ref (mA 8)) (C := RX8) (T := TX8) (N := 44) hx hb hts inX8 hown hK hP 4 rfl rfl 8 (by decide) fl19 (fun _ h9 => h9) rfl dX8_heir_137 ?_
                        refine lv_iload_n hx hb dX8_heir_140 rfl (lv_at hl 4 rfl) ?_
                        refine m_iald (k := k) hx hb hK hP 2 0 rfl rfl (by omega) (by decide) dX8_heir_141 ?_
                        refine lv_iload_n hx hb dX8_heir_142 rfl (lv_at hl 2 rfl) ?_
                        refine lv_icmp_ne (tgt := 153) hx hb dX8_heir_143 (by decide) (fun c_143 => ?_) (fun c_143 => ?_)
                        · skip
                          refine lv_iinc (v := (nI (k + 1))) (lv' := [(3, .int (nI (k + 1))), (4, .int 1), (0, .ref aM), (1, .int x), (2, .int y)]) hx hb dX8_heir_153 hl (k := 4) rfl (nI_inc k 1 (by decide)) (by decide) rfl (fun ls hl => ?_)
                          refine lv_goto (tgt := 52) hx hb dX8_heir_156 (by decide) ?_
                          have hrl := rem_L (x := x) (y := y) (k := k) c_23 (hself k (by omega))
                          exact ih_52 (k + 1) hDB hCR (upd hLF k 0) (by omega) (by omega) (by first | exact fil_step h1 (by simp_all [rep]) | exact fil_skip h1 (by simp_all [rep])) (by first | exact fil_step h2 (by simp_all [rep]) | exact fil_skip h2 (by simp_all [rep])) (by first | exact fil_step h3 (by rw [hrl]; grind) | exact fil_skip h3 (by rw [hrl]; grind)) _ _ (hP) (hD) hS ls (lv_sub hl [2, 3, 4, 0] rfl)
                        · skip
                          refine lv_aload_n hx hb dX8_heir_146 rfl (lv_at hl 1 rfl) ?_
                          refine va_get (D := D) (ci := 8) (v := .ref (mA 8)) (C := RX8) (T := TX8) (N := 44) hx hb hts inX8 hown hK hP 4 rfl rfl 8 (by decide) fl19 (fun _ h9 => h9) rfl dX8_heir_147 ?_
                          refine lv_iload_n hx hb dX8_heir_150 rfl (lv_at hl 4 rfl) ?_
                          refine lv_iload_n hx hb dX8_heir_151 rfl (lv_at hl 3 rfl) ?_
                          refine m_iast (k := k) (x := y) hx hb hK hP hD hS 2 0 rfl rfl (by omega) (by decide) dX8_heir_152 (fun H locs hP hD hS => ?_)
                          have hP : va_P D vwCl [ar cI (mA 5) 10 (upd (upd fPU (ix y) ((fPU (ix y)) + (fPU (ix x)))) (ix x) 0), ar cI (mA 7) 40 hDB, ar cI (mA 8) 40 (upd hCR k y), ar cI (mA 14) 40 (upd hLF k 0), mo aM mA (nI nt) 0 td (nI nm) (nI np) isd ln rf rp sz nx kd wh pl rd rn ic mcm mcp mcr] H := hP
                          have hD : va_D A [ar cI (mA 5) 10 (upd (upd fPU (ix y) ((fPU (ix y)) + (fPU (ix x)))) (ix x) 0), ar cI (mA 7) 40 hDB, ar cI (mA 8) 40 (upd hCR k y), ar cI (mA 14) 40 (upd hLF k 0), mo aM mA (nI nt) 0 td (nI nm) (nI np) isd ln rf rp sz nx kd wh pl rd rn ic mcm mcp mcr] := hD
                          refine lv_iinc (v := (nI (k + 1))) (lv' := [(3, .int (nI (k + 1))), (4, .int 1), (0, .ref aM), (1, .int x), (2, .int y)]) hx hb dX8_heir_153 hl (k := 4) rfl (nI_inc k 1 (by decide)) (by decide) rfl (fun ls hl => ?_)
                          refine lv_goto (tgt := 52) hx hb dX8_heir_156 (by decide) ?_
                          have hrl := rem_L (x := x) (y := y) (k := k) c_23 (hself k (by omega))
                          exact ih_52 (k + 1) hDB (upd hCR k y) (upd hLF k 0) (by omega) (by omega) (by first | exact fil_step h1 (by simp_all [rep]) | exact fil_skip h1 (by simp_all [rep])) (by first | exact fil_step h2 (by simp_all [rep]) | exact fil_skip h2 (by simp_all [rep])) (by first | exact fil_step h3 (by rw [hrl]; grind) | exact fil_skip h3 (by rw [hrl]; grind)) _ _ (hP) (hD) hS ls (lv_sub hl [2, 3, 4, 0] rfl)
                      · skip
                        refine lv_aload_n hx hb dX8_heir_129 rfl (lv_at hl 1 rfl) ?_
                        refine va_get (D := D) (ci := 8) (v := .ref (mA 7)) (C := RX8) (T := TX8) (N := 44) hx hb hts inX8 hown hK hP 4 rfl rfl 7 (by decide) fl16 (fun _ h9 => h9) rfl dX8_heir_130 ?_
                        refine lv_iload_n hx hb dX8_heir_133 rfl (lv_at hl 4 rfl) ?_
                        refine lv_iload_n hx hb dX8_heir_134 rfl (lv_at hl 3 rfl) ?_
                        refine m_iast (k := k) (x := y) hx hb hK hP hD hS 1 0 rfl rfl (by omega) (by decide) dX8_heir_135 (fun H locs hP hD hS => ?_)
                        have hP : va_P D vwCl [ar cI (mA 5) 10 (upd (upd fPU (ix y) ((fPU (ix y)) + (fPU (ix x)))) (ix x) 0), ar cI (mA 7) 40 (upd hDB k y), ar cI (mA 8) 40 hCR, ar cI (mA 14) 40 (upd hLF k 0), mo aM mA (nI nt) 0 td (nI nm) (nI np) isd ln rf rp sz nx kd wh pl rd rn ic mcm mcp mcr] H := hP
                        have hD : va_D A [ar cI (mA 5) 10 (upd (upd fPU (ix y) ((fPU (ix y)) + (fPU (ix x)))) (ix x) 0), ar cI (mA 7) 40 (upd hDB k y), ar cI (mA 8) 40 hCR, ar cI (mA 14) 40 (upd hLF k 0), mo aM mA (nI nt) 0 td (nI nm) (nI np) isd ln rf rp sz nx kd wh pl rd rn ic mcm mcp mcr] := hD
                        refine lv_aload_n hx hb dX8_heir_136 rfl (lv_at hl 1 rfl) ?_
                        refine va_get (D := D) (ci := 8) (v := .ref (mA 8)) (C := RX8) (T := TX8) (N := 44) hx hb hts inX8 hown hK hP 4 rfl rfl 8 (by decide) fl19 (fun _ h9 => h9) rfl dX8_heir_137 ?_
                        refine lv_iload_n hx hb dX8_heir_140 rfl (lv_at hl 4 rfl) ?_
                        refine m_iald (k := k) hx hb hK hP 2 0 rfl rfl (by omega) (by decide) dX8_heir_141 ?_
                        refine lv_iload_n hx hb dX8_heir_142 rfl (lv_at hl 2 rfl) ?_
                        refine lv_icmp_ne (tgt := 153) hx hb dX8_heir_143 (by decide) (fun c_143 => ?_) (fun c_143 => ?_)
                        · skip
                          refine lv_iinc (v := (nI (k + 1))) (lv' := [(3, .int (nI (k + 1))), (4, .int 1), (0, .ref aM), (1, .int x), (2, .int y)]) hx hb dX8_heir_153 hl (k := 4) rfl (nI_inc k 1 (by decide)) (by decide) rfl (fun ls hl => ?_)
                          refine lv_goto (tgt := 52) hx hb dX8_heir_156 (by decide) ?_
                          have hrl := rem_L (x := x) (y := y) (k := k) c_23 (hself k (by omega))
                          exact ih_52 (k + 1) (upd hDB k y) hCR (upd hLF k 0) (by omega) (by omega) (by first | exact fil_step h1 (by simp_all [rep]) | exact fil_skip h1 (by simp_all [rep])) (by first | exact fil_step h2 (by simp_all [rep]) | exact fil_skip h2 (by simp_all [rep])) (by first | exact fil_step h3 (by rw [hrl]; grind) | exact fil_skip h3 (by rw [hrl]; grind)) _ _ (hP) (hD) hS ls (lv_sub hl [2, 3, 4, 0] rfl)
                        · skip
                          refine lv_aload_n hx hb dX8_heir_146 rfl (lv_at hl 1 rfl) ?_
                          refine va_get (D := D) (ci := 8) (v := .ref (mA 8)) (C := RX8) (T := TX8) (N := 44) hx hb hts inX8 hown hK hP 4 rfl rfl 8 (by decide) fl19 (fun _ h9 => h9) rfl dX8_heir_147 ?_
                          refine lv_iload_n hx hb dX8_heir_150 rfl (lv_at hl 4 rfl) ?_
                          refine lv_iload_n hx hb dX8_heir_151 rfl (lv_at hl 3 rfl) ?_
                          refine m_iast (k := k) (x := y) hx hb hK hP hD hS 2 0 rfl rfl (by omega) (by decide) dX8_heir_152 (fun H locs hP hD hS => ?_)
                          have hP : va_P D vwCl [ar cI (mA 5) 10 (upd (upd fPU (ix y) ((fPU (ix y)) + (fPU (ix x)))) (ix x) 0), ar cI (mA 7) 40 (upd hDB k y), ar cI (mA 8) 40 (upd hCR k y), ar cI (mA 14) 40 (upd hLF k 0), mo aM mA (nI nt) 0 td (nI nm) (nI np) isd ln rf rp sz nx kd wh pl rd rn ic mcm mcp mcr] H := hP
                          have hD : va_D A [ar cI (mA 5) 10 (upd (upd fPU (ix y) ((fPU (ix y)) + (fPU (ix x)))) (ix x) 0), ar cI (mA 7) 40 (upd hDB k y), ar cI (mA 8) 40 (upd hCR k y), ar cI (mA 14) 40 (upd hLF k 0), mo aM mA (nI nt) 0 td (nI nm) (nI np) isd ln rf rp sz nx kd wh pl rd rn ic mcm mcp mcr] := hD
                          refine lv_iinc (v := (nI (k + 1))) (lv' := [(3, .int (nI (k + 1))), (4, .int 1), (0, .ref aM), (1, .int x), (2, .int y)]) hx hb dX8_heir_153 hl (k := 4) rfl (nI_inc k 1 (by decide)) (by decide) rfl (fun ls hl => ?_)
                          refine lv_goto (tgt := 52) hx hb dX8_heir_156 (by decide) ?_
                          have hrl := rem_L (x := x) (y := y) (k := k) c_23 (hself k (by omega))
                          exact ih_52 (k + 1) (upd hDB k y) (upd hCR k y) (upd hLF k 0) (by omega) (by omega) (by first | exact fil_step h1 (by simp_all [rep]) | exact fil_skip h1 (by simp_all [rep])) (by first | exact fil_step h2 (by simp_all [rep]) | exact fil_skip h2 (by simp_all [rep])) (by first | exact fil_step h3 (by rw [hrl]; grind) | exact fil_skip h3 (by rw [hrl]; grind)) _ _ (hP) (hD) hS ls (lv_sub hl [2, 3, 4, 0] rfl)
              · skip
                refine lv_aload_n hx hb dX8_heir_70 rfl (lv_at hl 0 rfl) ?_
                refine va_get (D := D) (ci := 8) (v := .ref (mA 8)) (C := RX8) (T := TX8) (N := 44) hx hb hts inX8 hown hK hP 4 rfl rfl 8 (by decide) fl19 (fun _ h9 => h9) rfl dX8_heir_71 ?_
                refine lv_iload_n hx hb dX8_heir_74 rfl (lv_at hl 3 rfl) ?_
                refine m_iald (k := k) hx hb hK hP 2 0 rfl rfl (by omega) (by decide) dX8_heir_75 ?_
                refine lv_iload_n hx hb dX8_heir_76 rfl (lv_at hl 2 rfl) ?_
                refine lv_icmp_eq (tgt := 100) hx hb dX8_heir_77 (by decide) (fun c_77 => ?_) (fun c_77 => ?_)
                · skip
                  refine lv_iconst (v := 1) hx hb dX8_heir_100 (by decide) ?_
                  refine lv_goto (tgt := 105) hx hb dX8_heir_101 (by decide) ?_
                  refine lv_istore (lv' := [(4, .int 1), (0, .ref aM), (1, .int x), (2, .int y), (3, .int (nI k))]) hx hb dX8_heir_105 hl (by decide) rfl (fun ls hl => ?_)
                  refine lv_iload hx hb dX8_heir_107 (lv_at hl 0 rfl) ?_
                  refine lv_if_eq (tgt := 119) hx hb dX8_heir_109 (by decide) (fun c_109 => ?_) (fun c_109 => ?_)
                  · skip
                    exact absurd c_109 (by decide)
                  · skip
                    refine lv_aload_n hx hb dX8_heir_112 rfl (lv_at hl 1 rfl) ?_
                    refine va_get (D := D) (ci := 8) (v := .ref (mA 14)) (C := RX8) (T := TX8) (N := 44) hx hb hts inX8 hown hK hP 4 rfl rfl 14 (by decide) fl37 (fun _ h9 => h9) rfl dX8_heir_113 ?_
                    refine lv_iload_n hx hb dX8_heir_116 rfl (lv_at hl 4 rfl) ?_
                    refine lv_iconst (v := 0) hx hb dX8_heir_117 (by decide) ?_
                    refine m_iast (k := k) (x := 0) hx hb hK hP hD hS 3 0 rfl rfl (by omega) (by decide) dX8_heir_118 (fun H locs hP hD hS => ?_)
                    have hP : va_P D vwCl [ar cI (mA 5) 10 (upd (upd fPU (ix y) ((fPU (ix y)) + (fPU (ix x)))) (ix x) 0), ar cI (mA 7) 40 hDB, ar cI (mA 8) 40 hCR, ar cI (mA 14) 40 (upd hLF k 0), mo aM mA (nI nt) 0 td (nI nm) (nI np) isd ln rf rp sz nx kd wh pl rd rn ic mcm mcp mcr] H := hP
                    have hD : va_D A [ar cI (mA 5) 10 (upd (upd fPU (ix y) ((fPU (ix y)) + (fPU (ix x)))) (ix x) 0), ar cI (mA 7) 40 hDB, ar cI (mA 8) 40 hCR, ar cI (mA 14) 40 (upd hLF k 0), mo aM mA (nI nt) 0 td (nI nm) (nI np) isd ln rf rp sz nx kd wh pl rd rn ic mcm mcp mcr] := hD
                    refine lv_aload_n hx hb dX8_heir_119 rfl (lv_at hl 1 rfl) ?_
                    refine va_get (D := D) (ci := 8) (v := .ref (mA 7)) (C := RX8) (T := TX8) (N := 44) hx hb hts inX8 hown hK hP 4 rfl rfl 7 (by decide) fl16 (fun _ h9 => h9) rfl dX8_heir_120 ?_
                    refine lv_iload_n hx hb dX8_heir_123 rfl (lv_at hl 4 rfl) ?_
                    refine m_iald (k := k) hx hb hK hP 1 0 rfl rfl (by omega) (by decide) dX8_heir_124 ?_
                    refine lv_iload_n hx hb dX8_heir_125 rfl (lv_at hl 2 rfl) ?_
                    refine lv_icmp_ne (tgt := 136) hx hb dX8_heir_126 (by decide) (fun c_126 => ?_) (fun c_126 => ?_)
                    · skip
                      refine lv_aload_n hx hb dX8_heir_136 rfl (lv_at hl 1 rfl) ?_
                      refine va_get (D := D) (ci := 8) (v := .ref (mA 8)) (C := RX8) (T := TX8) (N := 44) hx hb hts inX8 hown hK hP 4 rfl rfl 8 (by decide) fl19 (fun _ h9 => h9) rfl dX8_heir_137 ?_
                      refine lv_iload_n hx hb dX8_heir_140 rfl (lv_at hl 4 rfl) ?_
                      refine m_iald (k := k) hx hb hK hP 2 0 rfl rfl (by omega) (by decide) dX8_heir_141 ?_
                      refine lv_iload_n hx hb dX8_heir_142 rfl (lv_at hl 2 rfl) ?_
                      refine lv_icmp_ne (tgt := 153) hx hb dX8_heir_143 (by decide) (fun c_143 => ?_) (fun c_143 => ?_)
                      · skip
                        refine lv_iinc (v := (nI (k + 1))) (lv' := [(3, .int (nI (k + 1))), (4, .int 1), (0, .ref aM), (1, .int x), (2, .int y)]) hx hb dX8_heir_153 hl (k := 4) rfl (nI_inc k 1 (by decide)) (by decide) rfl (fun ls hl => ?_)
                        refine lv_goto (tgt := 52) hx hb dX8_heir_156 (by decide) ?_
                        have hrl := rem_L (x := x) (y := y) (k := k) c_23 (hself k (by omega))
                        exact ih_52 (k + 1) hDB hCR (upd hLF k 0) (by omega) (by omega) (by first | exact fil_step h1 (by simp_all [rep]) | exact fil_skip h1 (by simp_all [rep])) (by first | exact fil_step h2 (by simp_all [rep]) | exact fil_skip h2 (by simp_all [rep])) (by first | exact fil_step h3 (by rw [hrl]; grind) | exact fil_skip h3 (by rw [hrl]; grind)) _ _ (hP) (hD) hS ls (lv_sub hl [2, 3, 4, 0] rfl)
                      · skip
                        refine lv_aload_n hx hb dX8_heir_146 rfl (lv_at hl 1 rfl) ?_
                        refine va_get (D := D) (ci := 8) (v := .ref (mA 8)) (C := RX8) (T := TX8) (N := 44) hx hb hts inX8 hown hK hP 4 rfl rfl 8 (by decide) fl19 (fun _ h9 => h9) rfl dX8_heir_147 ?_
                        refine lv_iload_n hx hb dX8_heir_150 rfl (lv_at hl 4 rfl) ?_
                        refine lv_iload_n hx hb dX8_heir_151 rfl (lv_at hl 3 rfl) ?_
                        refine m_iast (k := k) (x := y) hx hb hK hP hD hS 2 0 rfl rfl (by omega) (by decide) dX8_heir_152 (fun H locs hP hD hS => ?_)
                        have hP : va_P D vwCl [ar cI (mA 5) 10 (upd (upd fPU (ix y) ((fPU (ix y)) + (fPU (ix x)))) (ix x) 0), ar cI (mA 7) 40 hDB, ar cI (mA 8) 40 (upd hCR k y), ar cI (mA 14) 40 (upd hLF k 0), mo aM mA (nI nt) 0 td (nI nm) (nI np) isd ln rf rp sz nx kd wh pl rd rn ic mcm mcp mcr] H := hP
                        have hD : va_D A [ar cI (mA 5) 10 (upd (upd fPU (ix y) ((fPU (ix y)) + (fPU (ix x)))) (ix x) 0), ar cI (mA 7) 40 hDB, ar cI (mA 8) 40 (upd hCR k y), ar cI (mA 14) 40 (upd hLF k 0), mo aM mA (nI nt) 0 td (nI nm) (nI np) isd ln rf rp sz nx kd wh pl rd rn ic mcm mcp mcr] := hD
                        refine lv_iinc (v := (nI (k + 1))) (lv' := [(3, .int (nI (k + 1))), (4, .int 1), (0, .ref aM), (1, .int x), (2, .int y)]) hx hb dX8_heir_153 hl (k := 4) rfl (nI_inc k 1 (by decide)) (by decide) rfl (fun ls hl => ?_)
                        refine lv_goto (tgt := 52) hx hb dX8_heir_156 (by decide) ?_
                        have hrl := rem_L (x := x) (y := y) (k := k) c_23 (hself k (by omega))
                        exact ih_52 (k + 1) hDB (upd hCR k y) (upd hLF k 0) (by omega) (by omega) (by first | exact fil_step h1 (by simp_all [rep]) | exact fil_skip h1 (by simp_all [rep])) (by first | exact fil_step h2 (by simp_all [rep]) | exact fil_skip h2 (by simp_all [rep])) (by first | exact fil_step h3 (by rw [hrl]; grind) | exact fil_skip h3 (by rw [hrl]; grind)) _ _ (hP) (hD) hS ls (lv_sub hl [2, 3, 4, 0] rfl)
                    · skip
                      refine lv_aload_n hx hb dX8_heir_129 rfl (lv_at hl 1 rfl) ?_
                      refine va_get (D := D) (ci := 8) (v := .ref (mA 7)) (C := RX8) (T := TX8) (N := 44) hx hb hts inX8 hown hK hP 4 rfl rfl 7 (by decide) fl16 (fun _ h9 => h9) rfl dX8_heir_130 ?_
                      refine lv_iload_n hx hb dX8_heir_133 rfl (lv_at hl 4 rfl) ?_
                      refine lv_iload_n hx hb dX8_heir_134 rfl (lv_at hl 3 rfl) ?_
                      refine m_iast (k := k) (x := y) hx hb hK hP hD hS 1 0 rfl rfl (by omega) (by decide) dX8_heir_135 (fun H locs hP hD hS => ?_)
                      have hP : va_P D vwCl [ar cI (mA 5) 10 (upd (upd fPU (ix y) ((fPU (ix y)) + (fPU (ix x)))) (ix x) 0), ar cI (mA 7) 40 (upd hDB k y), ar cI (mA 8) 40 hCR, ar cI (mA 14) 40 (upd hLF k 0), mo aM mA (nI nt) 0 td (nI nm) (nI np) isd ln rf rp sz nx kd wh pl rd rn ic mcm mcp mcr] H := hP
                      have hD : va_D A [ar cI (mA 5) 10 (upd (upd fPU (ix y) ((fPU (ix y)) + (fPU (ix x)))) (ix x) 0), ar cI (mA 7) 40 (upd hDB k y), ar cI (mA 8) 40 hCR, ar cI (mA 14) 40 (upd hLF k 0), mo aM mA (nI nt) 0 td (nI nm) (nI np) isd ln rf rp sz nx kd wh pl rd rn ic mcm mcp mcr] := hD
                      refine lv_aload_n hx hb dX8_heir_136 rfl (lv_at hl 1 rfl) ?_
                      refine va_get (D := D) (ci := 8) (v := .ref (mA 8)) (C := RX8) (T := TX8) (N := 44) hx hb hts inX8 hown hK hP 4 rfl rfl 8 (by decide) fl19 (fun _ h9 => h9) rfl dX8_heir_137 ?_
                      refine lv_iload_n hx hb dX8_heir_140 rfl (lv_at hl 4 rfl) ?_
                      refine m_iald (k := k) hx hb hK hP 2 0 rfl rfl (by omega) (by decide) dX8_heir_141 ?_
                      refine lv_iload_n hx hb dX8_heir_142 rfl (lv_at hl 2 rfl) ?_
                      refine lv_icmp_ne (tgt := 153) hx hb dX8_heir_143 (by decide) (fun c_143 => ?_) (fun c_143 => ?_)
                      · skip
                        refine lv_iinc (v := (nI (k + 1))) (lv' := [(3, .int (nI (k + 1))), (4, .int 1), (0, .ref aM), (1, .int x), (2, .int y)]) hx hb dX8_heir_153 hl (k := 4) rfl (nI_inc k 1 (by decide)) (by decide) rfl (fun ls hl => ?_)
                        refine lv_goto (tgt := 52) hx hb dX8_heir_156 (by decide) ?_
                        have hrl := rem_L (x := x) (y := y) (k := k) c_23 (hself k (by omega))
                        exact ih_52 (k + 1) (upd hDB k y) hCR (upd hLF k 0) (by omega) (by omega) (by first | exact fil_step h1 (by simp_all [rep]) | exact fil_skip h1 (by simp_all [rep])) (by first | exact fil_step h2 (by simp_all [rep]) | exact fil_skip h2 (by simp_all [rep])) (by first | exact fil_step h3 (by rw [hrl]; grind) | exact fil_skip h3 (by rw [hrl]; grind)) _ _ (hP) (hD) hS ls (lv_sub hl [2, 3, 4, 0] rfl)
                      · skip
                        refine lv_aload_n hx hb dX8_heir_146 rfl (lv_at hl 1 rfl) ?_
                        refine va_get (D := D) (ci := 8) (v := .ref (mA 8)) (C := RX8) (T := TX8) (N := 44) hx hb hts inX8 hown hK hP 4 rfl rfl 8 (by decide) fl19 (fun _ h9 => h9) rfl dX8_heir_147 ?_
                        refine lv_iload_n hx hb dX8_heir_150 rfl (lv_at hl 4 rfl) ?_
                        refine lv_iload_n hx hb dX8_heir_151 rfl (lv_at hl 3 rfl) ?_
                        refine m_iast (k := k) (x := y) hx hb hK hP hD hS 2 0 rfl rfl (by omega) (by decide) dX8_heir_152 (fun H locs hP hD hS => ?_)
                        have hP : va_P D vwCl [ar cI (mA 5) 10 (upd (upd fPU (ix y) ((fPU (ix y)) + (fPU (ix x)))) (ix x) 0), ar cI (mA 7) 40 (upd hDB k y), ar cI (mA 8) 40 (upd hCR k y), ar cI (mA 14) 40 (upd hLF k 0), mo aM mA (nI nt) 0 td (nI nm) (nI np) isd ln rf rp sz nx kd wh pl rd rn ic mcm mcp mcr] H := hP
                        have hD : va_D A [ar cI (mA 5) 10 (upd (upd fPU (ix y) ((fPU (ix y)) + (fPU (ix x)))) (ix x) 0), ar cI (mA 7) 40 (upd hDB k y), ar cI (mA 8) 40 (upd hCR k y), ar cI (mA 14) 40 (upd hLF k 0), mo aM mA (nI nt) 0 td (nI nm) (nI np) isd ln rf rp sz nx kd wh pl rd rn ic mcm mcp mcr] := hD
                        refine lv_iinc (v := (nI (k + 1))) (lv' := [(3, .int (nI (k + 1))), (4, .int 1), (0, .ref aM), (1, .int x), (2, .int y)]) hx hb dX8_heir_153 hl (k := 4) rfl (nI_inc k 1 (by decide)) (by decide) rfl (fun ls hl => ?_)
                        refine lv_goto (tgt := 52) hx hb dX8_heir_156 (by decide) ?_
                        have hrl := rem_L (x := x) (y := y) (k := k) c_23 (hself k (by omega))
                        exact ih_52 (k + 1) (upd hDB k y) (upd hCR k y) (upd hLF k 0) (by omega) (by omega) (by first | exact fil_step h1 (by simp_all [rep]) | exact fil_skip h1 (by simp_all [rep])) (by first | exact fil_step h2 (by simp_all [rep]) | exact fil_skip h2 (by simp_all [rep])) (by first | exact fil_step h3 (by rw [hrl]; grind) | exact fil_skip h3 (by rw [hrl]; grind)) _ _ (hP) (hD) hS ls (lv_sub hl [2, 3, 4, 0] rfl)
                · skip
                  refine lv_aload_n hx hb dX8_heir_80 rfl (lv_at hl 0 rfl) ?_
                  refine va_get (D := D) (ci := 8) (v := .ref (mA 7)) (C := RX8) (T := TX8) (N := 44) hx hb hts inX8 hown hK hP 4 rfl rfl 7 (by decide) fl16 (fun _ h9 => h9) rfl dX8_heir_81 ?_
                  refine lv_iload_n hx hb dX8_heir_84 rfl (lv_at hl 3 rfl) ?_
                  refine m_iald (k := k) hx hb hK hP 1 0 rfl rfl (by omega) (by decide) dX8_heir_85 ?_
                  refine lv_iload_n hx hb dX8_heir_86 rfl (lv_at hl 2 rfl) ?_
                  refine lv_icmp_ne (tgt := 104) hx hb dX8_heir_87 (by decide) (fun c_87 => ?_) (fun c_87 => ?_)
                  · skip
                    refine lv_iconst (v := 0) hx hb dX8_heir_104 (by decide) ?_
                    refine lv_istore (lv' := [(4, .int 0), (0, .ref aM), (1, .int x), (2, .int y), (3, .int (nI k))]) hx hb dX8_heir_105 hl (by decide) rfl (fun ls hl => ?_)
                    refine lv_iload hx hb dX8_heir_107 (lv_at hl 0 rfl) ?_
                    refine lv_if_eq (tgt := 119) hx hb dX8_heir_109 (by decide) (fun c_109 => ?_) (fun c_109 => ?_)
                    · skip
                      refine lv_aload_n hx hb dX8_heir_119 rfl (lv_at hl 1 rfl) ?_
                      refine va_get (D := D) (ci := 8) (v := .ref (mA 7)) (C := RX8) (T := TX8) (N := 44) hx hb hts inX8 hown hK hP 4 rfl rfl 7 (by decide) fl16 (fun _ h9 => h9) rfl dX8_heir_120 ?_
                      refine lv_iload_n hx hb dX8_heir_123 rfl (lv_at hl 4 rfl) ?_
                      refine m_iald (k := k) hx hb hK hP 1 0 rfl rfl (by omega) (by decide) dX8_heir_124 ?_
                      refine lv_iload_n hx hb dX8_heir_125 rfl (lv_at hl 2 rfl) ?_
                      refine lv_icmp_ne (tgt := 136) hx hb dX8_heir_126 (by decide) (fun c_126 => ?_) (fun c_126 => ?_)
                      · skip
                        refine lv_aload_n hx hb dX8_heir_136 rfl (lv_at hl 1 rfl) ?_
                        refine va_get (D := D) (ci := 8) (v := .ref (mA 8)) (C := RX8) (T := TX8) (N := 44) hx hb hts inX8 hown hK hP 4 rfl rfl 8 (by decide) fl19 (fun _ h9 => h9) rfl dX8_heir_137 ?_
                        refine lv_iload_n hx hb dX8_heir_140 rfl (lv_at hl 4 rfl) ?_
                        refine m_iald (k := k) hx hb hK hP 2 0 rfl rfl (by omega) (by decide) dX8_heir_141 ?_
                        refine lv_iload_n hx hb dX8_heir_142 rfl (lv_at hl 2 rfl) ?_
                        refine lv_icmp_ne (tgt := 153) hx hb dX8_heir_143 (by decide) (fun c_143 => ?_) (fun c_143 => ?_)
                        · skip
                          refine lv_iinc (v := (nI (k + 1))) (lv' := [(3, .int (nI (k + 1))), (4, .int 0), (0, .ref aM), (1, .int x), (2, .int y)]) hx hb dX8_heir_153 hl (k := 4) rfl (nI_inc k 1 (by decide)) (by decide) rfl (fun ls hl => ?_)
                          refine lv_goto (tgt := 52) hx hb dX8_heir_156 (by decide) ?_
                          have hrl := rem_L (x := x) (y := y) (k := k) c_23 (hself k (by omega))
                          exact ih_52 (k + 1) hDB hCR hLF (by omega) (by omega) (by first | exact fil_step h1 (by simp_all [rep]) | exact fil_skip h1 (by simp_all [rep])) (by first | exact fil_step h2 (by simp_all [rep]) | exact fil_skip h2 (by simp_all [rep])) (by first | exact fil_step h3 (by rw [hrl]; grind) | exact fil_skip h3 (by rw [hrl]; grind)) _ _ (hP) (hD) hS ls (lv_sub hl [2, 3, 4, 0] rfl)
                        · skip
                          refine lv_aload_n hx hb dX8_heir_146 rfl (lv_at hl 1 rfl) ?_
                          refine va_get (D := D) (ci := 8) (v := .ref (mA 8)) (C := RX8) (T := TX8) (N := 44) hx hb hts inX8 hown hK hP 4 rfl rfl 8 (by decide) fl19 (fun _ h9 => h9) rfl dX8_heir_147 ?_
                          refine lv_iload_n hx hb dX8_heir_150 rfl (lv_at hl 4 rfl) ?_
                          refine lv_iload_n hx hb dX8_heir_151 rfl (lv_at hl 3 rfl) ?_
                          refine m_iast (k := k) (x := y) hx hb hK hP hD hS 2 0 rfl rfl (by omega) (by decide) dX8_heir_152 (fun H locs hP hD hS => ?_)
                          have hP : va_P D vwCl [ar cI (mA 5) 10 (upd (upd fPU (ix y) ((fPU (ix y)) + (fPU (ix x)))) (ix x) 0), ar cI (mA 7) 40 hDB, ar cI (mA 8) 40 (upd hCR k y), ar cI (mA 14) 40 hLF, mo aM mA (nI nt) 0 td (nI nm) (nI np) isd ln rf rp sz nx kd wh pl rd rn ic mcm mcp mcr] H := hP
                          have hD : va_D A [ar cI (mA 5) 10 (upd (upd fPU (ix y) ((fPU (ix y)) + (fPU (ix x)))) (ix x) 0), ar cI (mA 7) 40 hDB, ar cI (mA 8) 40 (upd hCR k y), ar cI (mA 14) 40 hLF, mo aM mA (nI nt) 0 td (nI nm) (nI np) isd ln rf rp sz nx kd wh pl rd rn ic mcm mcp mcr] := hD
                          refine lv_iinc (v := (nI (k + 1))) (lv' := [(3, .int (nI (k + 1))), (4, .int 0), (0, .ref aM), (1, .int x), (2, .int y)]) hx hb dX8_heir_153 hl (k := 4) rfl (nI_inc k 1 (by decide)) (by decide) rfl (fun ls hl => ?_)
                          refine lv_goto (tgt := 52) hx hb dX8_heir_156 (by decide) ?_
                          have hrl := rem_L (x := x) (y := y) (k := k) c_23 (hself k (by omega))
                          exact ih_52 (k + 1) hDB (upd hCR k y) hLF (by omega) (by omega) (by first | exact fil_step h1 (by simp_all [rep]) | exact fil_skip h1 (by simp_all [rep])) (by first | exact fil_step h2 (by simp_all [rep]) | exact fil_skip h2 (by simp_all [rep])) (by first | exact fil_step h3 (by rw [hrl]; grind) | exact fil_skip h3 (by rw [hrl]; grind)) _ _ (hP) (hD) hS ls (lv_sub hl [2, 3, 4, 0] rfl)
                      · skip
                        refine lv_aload_n hx hb dX8_heir_129 rfl (lv_at hl 1 rfl) ?_
                        refine va_get (D := D) (ci := 8) (v := .ref (mA 7)) (C := RX8) (T := TX8) (N := 44) hx hb hts inX8 hown hK hP 4 rfl rfl 7 (by decide) fl16 (fun _ h9 => h9) rfl dX8_heir_130 ?_
                        refine lv_iload_n hx hb dX8_heir_133 rfl (lv_at hl 4 rfl) ?_
                        refine lv_iload_n hx hb dX8_heir_134 rfl (lv_at hl 3 rfl) ?_
                        refine m_iast (k := k) (x := y) hx hb hK hP hD hS 1 0 rfl rfl (by omega) (by decide) dX8_heir_135 (fun H locs hP hD hS => ?_)
                        have hP : va_P D vwCl [ar cI (mA 5) 10 (upd (upd fPU (ix y) ((fPU (ix y)) + (fPU (ix x)))) (ix x) 0), ar cI (mA 7) 40 (upd hDB k y), ar cI (mA 8) 40 hCR, ar cI (mA 14) 40 hLF, mo aM mA (nI nt) 0 td (nI nm) (nI np) isd ln rf rp sz nx kd wh pl rd rn ic mcm mcp mcr] H := hP
                        have hD : va_D A [ar cI (mA 5) 10 (upd (upd fPU (ix y) ((fPU (ix y)) + (fPU (ix x)))) (ix x) 0), ar cI (mA 7) 40 (upd hDB k y), ar cI (mA 8) 40 hCR, ar cI (mA 14) 40 hLF, mo aM mA (nI nt) 0 td (nI nm) (nI np) isd ln rf rp sz nx kd wh pl rd rn ic mcm mcp mcr] := hD
                        refine lv_aload_n hx hb dX8_heir_136 rfl (lv_at hl 1 rfl) ?_
                        refine va_get (D := D) (ci := 8) (v := .ref (mA 8)) (C := RX8) (T := TX8) (N := 44) hx hb hts inX8 hown hK hP 4 rfl rfl 8 (by decide) fl19 (fun _ h9 => h9) rfl dX8_heir_137 ?_
                        refine lv_iload_n hx hb dX8_heir_140 rfl (lv_at hl 4 rfl) ?_
                        refine m_iald (k := k) hx hb hK hP 2 0 rfl rfl (by omega) (by decide) dX8_heir_141 ?_
                        refine lv_iload_n hx hb dX8_heir_142 rfl (lv_at hl 2 rfl) ?_
                        refine lv_icmp_ne (tgt := 153) hx hb dX8_heir_143 (by decide) (fun c_143 => ?_) (fun c_143 => ?_)
                        · skip
                          refine lv_iinc (v := (nI (k + 1))) (lv' := [(3, .int (nI (k + 1))), (4, .int 0), (0, .ref aM), (1, .int x), (2, .int y)]) hx hb dX8_heir_153 hl (k := 4) rfl (nI_inc k 1 (by decide)) (by decide) rfl (fun ls hl => ?_)
                          refine lv_goto (tgt := 52) hx hb dX8_heir_156 (by decide) ?_
                          have hrl := rem_L (x := x) (y := y) (k := k) c_23 (hself k (by omega))
                          exact ih_52 (k + 1) (upd hDB k y) hCR hLF (by omega) (by omega) (by first | exact fil_step h1 (by simp_all [rep]) | exact fil_skip h1 (by simp_all [rep])) (by first | exact fil_step h2 (by simp_all [rep]) | exact fil_skip h2 (by simp_all [rep])) (by first | exact fil_step h3 (by rw [hrl]; grind) | exact fil_skip h3 (by rw [hrl]; grind)) _ _ (hP) (hD) hS ls (lv_sub hl [2, 3, 4, 0] rfl)
                        · skip
                          refine lv_aload_n hx hb dX8_heir_146 rfl (lv_at hl 1 rfl) ?_
                          refine va_get (D := D) (ci := 8) (v := .ref (mA 8)) (C := RX8) (T := TX8) (N := 44) hx hb hts inX8 hown hK hP 4 rfl rfl 8 (by decide) fl19 (fun _ h9 => h9) rfl dX8_heir_147 ?_
                          refine lv_iload_n hx hb dX8_heir_150 rfl (lv_at hl 4 rfl) ?_
                          refine lv_iload_n hx hb dX8_heir_151 rfl (lv_at hl 3 rfl) ?_
                          refine m_iast (k := k) (x := y) hx hb hK hP hD hS 2 0 rfl rfl (by omega) (by decide) dX8_heir_152 (fun H locs hP hD hS => ?_)
                          have hP : va_P D vwCl [ar cI (mA 5) 10 (upd (upd fPU (ix y) ((fPU (ix y)) + (fPU (ix x)))) (ix x) 0), ar cI (mA 7) 40 (upd hDB k y), ar cI (mA 8) 40 (upd hCR k y), ar cI (mA 14) 40 hLF, mo aM mA (nI nt) 0 td (nI nm) (nI np) isd ln rf rp sz nx kd wh pl rd rn ic mcm mcp mcr] H := hP
                          have hD : va_D A [ar cI (mA 5) 10 (upd (upd fPU (ix y) ((fPU (ix y)) + (fPU (ix x)))) (ix x) 0), ar cI (mA 7) 40 (upd hDB k y), ar cI (mA 8) 40 (upd hCR k y), ar cI (mA 14) 40 hLF, mo aM mA (nI nt) 0 td (nI nm) (nI np) isd ln rf rp sz nx kd wh pl rd rn ic mcm mcp mcr] := hD
                          refine lv_iinc (v := (nI (k + 1))) (lv' := [(3, .int (nI (k + 1))), (4, .int 0), (0, .ref aM), (1, .int x), (2, .int y)]) hx hb dX8_heir_153 hl (k := 4) rfl (nI_inc k 1 (by decide)) (by decide) rfl (fun ls hl => ?_)
                          refine lv_goto (tgt := 52) hx hb dX8_heir_156 (by decide) ?_
                          have hrl := rem_L (x := x) (y := y) (k := k) c_23 (hself k (by omega))
                          exact ih_52 (k + 1) (upd hDB k y) (upd hCR k y) hLF (by omega) (by omega) (by first | exact fil_step h1 (by simp_all [rep]) | exact fil_skip h1 (by simp_all [rep])) (by first | exact fil_step h2 (by simp_all [rep]) | exact fil_skip h2 (by simp_all [rep])) (by first | exact fil_step h3 (by rw [hrl]; grind) | exact fil_skip h3 (by rw [hrl]; grind)) _ _ (hP) (hD) hS ls (lv_sub hl [2, 3, 4, 0] rfl)
                    · skip
                      exact absurd c_109 (by decide)
                  · skip
                    refine lv_aload_n hx hb dX8_heir_90 rfl (lv_at hl 0 rfl) ?_
                    refine va_get (D := D) (ci := 8) (v := .ref (mA 8)) (C := RX8) (T := TX8) (N := 44) hx hb hts inX8 hown hK hP 4 rfl rfl 8 (by decide) fl19 (fun _ h9 => h9) rfl dX8_heir_91 ?_
                    refine lv_iload_n hx hb dX8_heir_94 rfl (lv_at hl 3 rfl) ?_
                    refine m_iald (k := k) hx hb hK hP 2 0 rfl rfl (by omega) (by decide) dX8_heir_95 ?_
                    refine lv_iload_n hx hb dX8_heir_96 rfl (lv_at hl 1 rfl) ?_
                    refine lv_icmp_ne (tgt := 104) hx hb dX8_heir_97 (by decide) (fun c_97 => ?_) (fun c_97 => ?_)
                    · skip
                      refine lv_iconst (v := 0) hx hb dX8_heir_104 (by decide) ?_
                      refine lv_istore (lv' := [(4, .int 0), (0, .ref aM), (1, .int x), (2, .int y), (3, .int (nI k))]) hx hb dX8_heir_105 hl (by decide) rfl (fun ls hl => ?_)
                      refine lv_iload hx hb dX8_heir_107 (lv_at hl 0 rfl) ?_
                      refine lv_if_eq (tgt := 119) hx hb dX8_heir_109 (by decide) (fun c_109 => ?_) (fun c_109 => ?_)
                      · skip
                        refine lv_aload_n hx hb dX8_heir_119 rfl (lv_at hl 1 rfl) ?_
                        refine va_get (D := D) (ci := 8) (v := .ref (mA 7)) (C := RX8) (T := TX8) (N := 44) hx hb hts inX8 hown hK hP 4 rfl rfl 7 (by decide) fl16 (fun _ h9 => h9) rfl dX8_heir_120 ?_
                        refine lv_iload_n hx hb dX8_heir_123 rfl (lv_at hl 4 rfl) ?_
                        refine m_iald (k := k) hx hb hK hP 1 0 rfl rfl (by omega) (by decide) dX8_heir_124 ?_
                        refine lv_iload_n hx hb dX8_heir_125 rfl (lv_at hl 2 rfl) ?_
                        refine lv_icmp_ne (tgt := 136) hx hb dX8_heir_126 (by decide) (fun c_126 => ?_) (fun c_126 => ?_)
                        · skip
                          refine lv_aload_n hx hb dX8_heir_136 rfl (lv_at hl 1 rfl) ?_
                          refine va_get (D := D) (ci := 8) (v := .ref (mA 8)) (C := RX8) (T := TX8) (N := 44) hx hb hts inX8 hown hK hP 4 rfl rfl 8 (by decide) fl19 (fun _ h9 => h9) rfl dX8_heir_137 ?_
                          refine lv_iload_n hx hb dX8_heir_140 rfl (lv_at hl 4 rfl) ?_
                          refine m_iald (k := k) hx hb hK hP 2 0 rfl rfl (by omega) (by decide) dX8_heir_141 ?_
                          refine lv_iload_n hx hb dX8_heir_142 rfl (lv_at hl 2 rfl) ?_
                          refine lv_icmp_ne (tgt := 153) hx hb dX8_heir_143 (by decide) (fun c_143 => ?_) (fun c_143 => ?_)
                          · skip
                            refine lv_iinc (v := (nI (k + 1))) (lv' := [(3, .int (nI (k + 1))), (4, .int 0), (0, .ref aM), (1, .int x), (2, .int y)]) hx hb dX8_heir_153 hl (k := 4) rfl (nI_inc k 1 (by decide)) (by decide) rfl (fun ls hl => ?_)
                            refine lv_goto (tgt := 52) hx hb dX8_heir_156 (by decide) ?_
                            have hrl := rem_L (x := x) (y := y) (k := k) c_23 (hself k (by omega))
                            exact ih_52 (k + 1) hDB hCR hLF (by omega) (by omega) (by first | exact fil_step h1 (by simp_all [rep]) | exact fil_skip h1 (by simp_all [rep])) (by first | exact fil_step h2 (by simp_all [rep]) | exact fil_skip h2 (by simp_all [rep])) (by first | exact fil_step h3 (by rw [hrl]; grind) | exact fil_skip h3 (by rw [hrl]; grind)) _ _ (hP) (hD) hS ls (lv_sub hl [2, 3, 4, 0] rfl)
                          · skip
                            refine lv_aload_n hx hb dX8_heir_146 rfl (lv_at hl 1 rfl) ?_
                            refine va_get (D := D) (ci := 8) (v := .ref (mA 8)) (C := RX8) (T := TX8) (N := 44) hx hb hts inX8 hown hK hP 4 rfl rfl 8 (by decide) fl19 (fun _ h9 => h9) rfl dX8_heir_147 ?_
                            refine lv_iload_n hx hb dX8_heir_150 rfl (lv_at hl 4 rfl) ?_
                            refine lv_iload_n hx hb dX8_heir_151 rfl (lv_at hl 3 rfl) ?_
                            refine m_iast (k := k) (x := y) hx hb hK hP hD hS 2 0 rfl rfl (by omega) (by decide) dX8_heir_152 (fun H locs hP hD hS => ?_)
                            have hP : va_P D vwCl [ar cI (mA 5) 10 (upd (upd fPU (ix y) ((fPU (ix y)) + (fPU (ix x)))) (ix x) 0), ar cI (mA 7) 40 hDB, ar cI (mA 8) 40 (upd hCR k y), ar cI (mA 14) 40 hLF, mo aM mA (nI nt) 0 td (nI nm) (nI np) isd ln rf rp sz nx kd wh pl rd rn ic mcm mcp mcr] H := hP
                            have hD : va_D A [ar cI (mA 5) 10 (upd (upd fPU (ix y) ((fPU (ix y)) + (fPU (ix x)))) (ix x) 0), ar cI (mA 7) 40 hDB, ar cI (mA 8) 40 (upd hCR k y), ar cI (mA 14) 40 hLF, mo aM mA (nI nt) 0 td (nI nm) (nI np) isd ln rf rp sz nx kd wh pl rd rn ic mcm mcp mcr] := hD
                            refine lv_iinc (v := (nI (k + 1))) (lv' := [(3, .int (nI (k + 1))), (4, .int 0), (0, .ref aM), (1, .int x), (2, .int y)]) hx hb dX8_heir_153 hl (k := 4) rfl (nI_inc k 1 (by decide)) (by decide) rfl (fun ls hl => ?_)
                            refine lv_goto (tgt := 52) hx hb dX8_heir_156 (by decide) ?_
                            have hrl := rem_L (x := x) (y := y) (k := k) c_23 (hself k (by omega))
                            exact ih_52 (k + 1) hDB (upd hCR k y) hLF (by omega) (by omega) (by first | exact fil_step h1 (by simp_all [rep]) | exact fil_skip h1 (by simp_all [rep])) (by first | exact fil_step h2 (by simp_all [rep]) | exact fil_skip h2 (by simp_all [rep])) (by first | exact fil_step h3 (by rw [hrl]; grind) | exact fil_skip h3 (by rw [hrl]; grind)) _ _ (hP) (hD) hS ls (lv_sub hl [2, 3, 4, 0] rfl)
                        · skip
                          refine lv_aload_n hx hb dX8_heir_129 rfl (lv_at hl 1 rfl) ?_
                          refine va_get (D := D) (ci := 8) (v := .ref (mA 7)) (C := RX8) (T := TX8) (N := 44) hx hb hts inX8 hown hK hP 4 rfl rfl 7 (by decide) fl16 (fun _ h9 => h9) rfl dX8_heir_130 ?_
                          refine lv_iload_n hx hb dX8_heir_133 rfl (lv_at hl 4 rfl) ?_
                          refine lv_iload_n hx hb dX8_heir_134 rfl (lv_at hl 3 rfl) ?_
                          refine m_iast (k := k) (x := y) hx hb hK hP hD hS 1 0 rfl rfl (by omega) (by decide) dX8_heir_135 (fun H locs hP hD hS => ?_)
                          have hP : va_P D vwCl [ar cI (mA 5) 10 (upd (upd fPU (ix y) ((fPU (ix y)) + (fPU (ix x)))) (ix x) 0), ar cI (mA 7) 40 (upd hDB k y), ar cI (mA 8) 40 hCR, ar cI (mA 14) 40 hLF, mo aM mA (nI nt) 0 td (nI nm) (nI np) isd ln rf rp sz nx kd wh pl rd rn ic mcm mcp mcr] H := hP
                          have hD : va_D A [ar cI (mA 5) 10 (upd (upd fPU (ix y) ((fPU (ix y)) + (fPU (ix x)))) (ix x) 0), ar cI (mA 7) 40 (upd hDB k y), ar cI (mA 8) 40 hCR, ar cI (mA 14) 40 hLF, mo aM mA (nI nt) 0 td (nI nm) (nI np) isd ln rf rp sz nx kd wh pl rd rn ic mcm mcp mcr] := hD
                          refine lv_aload_n hx hb dX8_heir_136 rfl (lv_at hl 1 rfl) ?_
                          refine va_get (D := D) (ci := 8) (v := .ref (mA 8)) (C := RX8) (T := TX8) (N := 44) hx hb hts inX8 hown hK hP 4 rfl rfl 8 (by decide) fl19 (fun _ h9 => h9) rfl dX8_heir_137 ?_
                          refine lv_iload_n hx hb dX8_heir_140 rfl (lv_at hl 4 rfl) ?_
                          refine m_iald (k := k) hx hb hK hP 2 0 rfl rfl (by omega) (by decide) dX8_heir_141 ?_
                          refine lv_iload_n hx hb dX8_heir_142 rfl (lv_at hl 2 rfl) ?_
                          refine lv_icmp_ne (tgt := 153) hx hb dX8_heir_143 (by decide) (fun c_143 => ?_) (fun c_143 => ?_)
                          · skip
                            refine lv_iinc (v := (nI (k + 1))) (lv' := [(3, .int (nI (k + 1))), (4, .int 0), (0, .ref aM), (1, .int x), (2, .int y)]) hx hb dX8_heir_153 hl (k := 4) rfl (nI_inc k 1 (by decide)) (by decide) rfl (fun ls hl => ?_)
                            refine lv_goto (tgt := 52) hx hb dX8_heir_156 (by decide) ?_
                            have hrl := rem_L (x := x) (y := y) (k := k) c_23 (hself k (by omega))
                            exact ih_52 (k + 1) (upd hDB k y) hCR hLF (by omega) (by omega) (by first | exact fil_step h1 (by simp_all [rep]) | exact fil_skip h1 (by simp_all [rep])) (by first | exact fil_step h2 (by simp_all [rep]) | exact fil_skip h2 (by simp_all [rep])) (by first | exact fil_step h3 (by rw [hrl]; grind) | exact fil_skip h3 (by rw [hrl]; grind)) _ _ (hP) (hD) hS ls (lv_sub hl [2, 3, 4, 0] rfl)
                          · skip
                            refine lv_aload_n hx hb dX8_heir_146 rfl (lv_at hl 1 rfl) ?_
                            refine va_get (D := D) (ci := 8) (v := .ref (mA 8)) (C := RX8) (T := TX8) (N := 44) hx hb hts inX8 hown hK hP 4 rfl rfl 8 (by decide) fl19 (fun _ h9 => h9) rfl dX8_heir_147 ?_
                            refine lv_iload_n hx hb dX8_heir_150 rfl (lv_at hl 4 rfl) ?_
                            refine lv_iload_n hx hb dX8_heir_151 rfl (lv_at hl 3 rfl) ?_
                            refine m_iast (k := k) (x := y) hx hb hK hP hD hS 2 0 rfl rfl (by omega) (by decide) dX8_heir_152 (fun H locs hP hD hS => ?_)
                            have hP : va_P D vwCl [ar cI (mA 5) 10 (upd (upd fPU (ix y) ((fPU (ix y)) + (fPU (ix x)))) (ix x) 0), ar cI (mA 7) 40 (upd hDB k y), ar cI (mA 8) 40 (upd hCR k y), ar cI (mA 14) 40 hLF, mo aM mA (nI nt) 0 td (nI nm) (nI np) isd ln rf rp sz nx kd wh pl rd rn ic mcm mcp mcr] H := hP
                            have hD : va_D A [ar cI (mA 5) 10 (upd (upd fPU (ix y) ((fPU (ix y)) + (fPU (ix x)))) (ix x) 0), ar cI (mA 7) 40 (upd hDB k y), ar cI (mA 8) 40 (upd hCR k y), ar cI (mA 14) 40 hLF, mo aM mA (nI nt) 0 td (nI nm) (nI np) isd ln rf rp sz nx kd wh pl rd rn ic mcm mcp mcr] := hD
                            refine lv_iinc (v := (nI (k + 1))) (lv' := [(3, .int (nI (k + 1))), (4, .int 0), (0, .ref aM), (1, .int x), (2, .int y)]) hx hb dX8_heir_153 hl (k := 4) rfl (nI_inc k 1 (by decide)) (by decide) rfl (fun ls hl => ?_)
                            refine lv_goto (tgt := 52) hx hb dX8_heir_156 (by decide) ?_
                            have hrl := rem_L (x := x) (y := y) (k := k) c_23 (hself k (by omega))
                            exact ih_52 (k + 1) (upd hDB k y) (upd hCR k y) hLF (by omega) (by omega) (by first | exact fil_step h1 (by simp_all [rep]) | exact fil_skip h1 (by simp_all [rep])) (by first | exact fil_step h2 (by simp_all [rep]) | exact fil_skip h2 (by simp_all [rep])) (by first | exact fil_step h3 (by rw [hrl]; grind) | exact fil_skip h3 (by rw [hrl]; grind)) _ _ (hP) (hD) hS ls (lv_sub hl [2, 3, 4, 0] rfl)
                      · skip
                        exact absurd c_109 (by decide)
                    · skip
                      refine lv_iconst (v := 1) hx hb dX8_heir_100 (by decide) ?_
                      refine lv_goto (tgt := 105) hx hb dX8_heir_101 (by decide) ?_
                      refine lv_istore (lv' := [(4, .int 1), (0, .ref aM), (1, .int x), (2, .int y), (3, .int (nI k))]) hx hb dX8_heir_105 hl (by decide) rfl (fun ls hl => ?_)
                      refine lv_iload hx hb dX8_heir_107 (lv_at hl 0 rfl) ?_
                      refine lv_if_eq (tgt := 119) hx hb dX8_heir_109 (by decide) (fun c_109 => ?_) (fun c_109 => ?_)
                      · skip
                        exact absurd c_109 (by decide)
                      · skip
                        refine lv_aload_n hx hb dX8_heir_112 rfl (lv_at hl 1 rfl) ?_
                        refine va_get (D := D) (ci := 8) (v := .ref (mA 14)) (C := RX8) (T := TX8) (N := 44) hx hb hts inX8 hown hK hP 4 rfl rfl 14 (by decide) fl37 (fun _ h9 => h9) rfl dX8_heir_113 ?_
                        refine lv_iload_n hx hb dX8_heir_116 rfl (lv_at hl 4 rfl) ?_
                        refine lv_iconst (v := 0) hx hb dX8_heir_117 (by decide) ?_
                        refine m_iast (k := k) (x := 0) hx hb hK hP hD hS 3 0 rfl rfl (by omega) (by decide) dX8_heir_118 (fun H locs hP hD hS => ?_)
                        have hP : va_P D vwCl [ar cI (mA 5) 10 (upd (upd fPU (ix y) ((fPU (ix y)) + (fPU (ix x)))) (ix x) 0), ar cI (mA 7) 40 hDB, ar cI (mA 8) 40 hCR, ar cI (mA 14) 40 (upd hLF k 0), mo aM mA (nI nt) 0 td (nI nm) (nI np) isd ln rf rp sz nx kd wh pl rd rn ic mcm mcp mcr] H := hP
                        have hD : va_D A [ar cI (mA 5) 10 (upd (upd fPU (ix y) ((fPU (ix y)) + (fPU (ix x)))) (ix x) 0), ar cI (mA 7) 40 hDB, ar cI (mA 8) 40 hCR, ar cI (mA 14) 40 (upd hLF k 0), mo aM mA (nI nt) 0 td (nI nm) (nI np) isd ln rf rp sz nx kd wh pl rd rn ic mcm mcp mcr] := hD
                        refine lv_aload_n hx hb dX8_heir_119 rfl (lv_at hl 1 rfl) ?_
                        refine va_get (D := D) (ci := 8) (v := .ref (mA 7)) (C := RX8) (T := TX8) (N := 44) hx hb hts inX8 hown hK hP 4 rfl rfl 7 (by decide) fl16 (fun _ h9 => h9) rfl dX8_heir_120 ?_
                        refine lv_iload_n hx hb dX8_heir_123 rfl (lv_at hl 4 rfl) ?_
                        refine m_iald (k := k) hx hb hK hP 1 0 rfl rfl (by omega) (by decide) dX8_heir_124 ?_
                        refine lv_iload_n hx hb dX8_heir_125 rfl (lv_at hl 2 rfl) ?_
                        refine lv_icmp_ne (tgt := 136) hx hb dX8_heir_126 (by decide) (fun c_126 => ?_) (fun c_126 => ?_)
                        · skip
                          refine lv_aload_n hx hb dX8_heir_136 rfl (lv_at hl 1 rfl) ?_
                          refine va_get (D := D) (ci := 8) (v := .ref (mA 8)) (C := RX8) (T := TX8) (N := 44) hx hb hts inX8 hown hK hP 4 rfl rfl 8 (by decide) fl19 (fun _ h9 => h9) rfl dX8_heir_137 ?_
                          refine lv_iload_n hx hb dX8_heir_140 rfl (lv_at hl 4 rfl) ?_
                          refine m_iald (k := k) hx hb hK hP 2 0 rfl rfl (by omega) (by decide) dX8_heir_141 ?_
                          refine lv_iload_n hx hb dX8_heir_142 rfl (lv_at hl 2 rfl) ?_
                          refine lv_icmp_ne (tgt := 153) hx hb dX8_heir_143 (by decide) (fun c_143 => ?_) (fun c_143 => ?_)
                          · skip
                            refine lv_iinc (v := (nI (k + 1))) (lv' := [(3, .int (nI (k + 1))), (4, .int 1), (0, .ref aM), (1, .int x), (2, .int y)]) hx hb dX8_heir_153 hl (k := 4) rfl (nI_inc k 1 (by decide)) (by decide) rfl (fun ls hl => ?_)
                            refine lv_goto (tgt := 52) hx hb dX8_heir_156 (by decide) ?_
                            have hrl := rem_L (x := x) (y := y) (k := k) c_23 (hself k (by omega))
                            exact ih_52 (k + 1) hDB hCR (upd hLF k 0) (by omega) (by omega) (by first | exact fil_step h1 (by simp_all [rep]) | exact fil_skip h1 (by simp_all [rep])) (by first | exact fil_step h2 (by simp_all [rep]) | exact fil_skip h2 (by simp_all [rep])) (by first | exact fil_step h3 (by rw [hrl]; grind) | exact fil_skip h3 (by rw [hrl]; grind)) _ _ (hP) (hD) hS ls (lv_sub hl [2, 3, 4, 0] rfl)
                          · skip
                            refine lv_aload_n hx hb dX8_heir_146 rfl (lv_at hl 1 rfl) ?_
                            refine va_get (D := D) (ci := 8) (v := .ref (mA 8)) (C := RX8) (T := TX8) (N := 44) hx hb hts inX8 hown hK hP 4 rfl rfl 8 (by decide) fl19 (fun _ h9 => h9) rfl dX8_heir_147 ?_
                            refine lv_iload_n hx hb dX8_heir_150 rfl (lv_at hl 4 rfl) ?_
                            refine lv_iload_n hx hb dX8_heir_151 rfl (lv_at hl 3 rfl) ?_
                            refine m_iast (k := k) (x := y) hx hb hK hP hD hS 2 0 rfl rfl (by omega) (by decide) dX8_heir_152 (fun H locs hP hD hS => ?_)
                            have hP : va_P D vwCl [ar cI (mA 5) 10 (upd (upd fPU (ix y) ((fPU (ix y)) + (fPU (ix x)))) (ix x) 0), ar cI (mA 7) 40 hDB, ar cI (mA 8) 40 (upd hCR k y), ar cI (mA 14) 40 (upd hLF k 0), mo aM mA (nI nt) 0 td (nI nm) (nI np) isd ln rf rp sz nx kd wh pl rd rn ic mcm mcp mcr] H := hP
                            have hD : va_D A [ar cI (mA 5) 10 (upd (upd fPU (ix y) ((fPU (ix y)) + (fPU (ix x)))) (ix x) 0), ar cI (mA 7) 40 hDB, ar cI (mA 8) 40 (upd hCR k y), ar cI (mA 14) 40 (upd hLF k 0), mo aM mA (nI nt) 0 td (nI nm) (nI np) isd ln rf rp sz nx kd wh pl rd rn ic mcm mcp mcr] := hD
                            refine lv_iinc (v := (nI (k + 1))) (lv' := [(3, .int (nI (k + 1))), (4, .int 1), (0, .ref aM), (1, .int x), (2, .int y)]) hx hb dX8_heir_153 hl (k := 4) rfl (nI_inc k 1 (by decide)) (by decide) rfl (fun ls hl => ?_)
                            refine lv_goto (tgt := 52) hx hb dX8_heir_156 (by decide) ?_
                            have hrl := rem_L (x := x) (y := y) (k := k) c_23 (hself k (by omega))
                            exact ih_52 (k + 1) hDB (upd hCR k y) (upd hLF k 0) (by omega) (by omega) (by first | exact fil_step h1 (by simp_all [rep]) | exact fil_skip h1 (by simp_all [rep])) (by first | exact fil_step h2 (by simp_all [rep]) | exact fil_skip h2 (by simp_all [rep])) (by first | exact fil_step h3 (by rw [hrl]; grind) | exact fil_skip h3 (by rw [hrl]; grind)) _ _ (hP) (hD) hS ls (lv_sub hl [2, 3, 4, 0] rfl)
                        · skip
                          refine lv_aload_n hx hb dX8_heir_129 rfl (lv_at hl 1 rfl) ?_
                          refine va_get (D := D) (ci := 8) (v := .ref (mA 7)) (C := RX8) (T := TX8) (N := 44) hx hb hts inX8 hown hK hP 4 rfl rfl 7 (by decide) fl16 (fun _ h9 => h9) rfl dX8_heir_130 ?_
                          refine lv_iload_n hx hb dX8_heir_133 rfl (lv_at hl 4 rfl) ?_
                          refine lv_iload_n hx hb dX8_heir_134 rfl (lv_at hl 3 rfl) ?_
                          refine m_iast (k := k) (x := y) hx hb hK hP hD hS 1 0 rfl rfl (by omega) (by decide) dX8_heir_135 (fun H locs hP hD hS => ?_)
                          have hP : va_P D vwCl [ar cI (mA 5) 10 (upd (upd fPU (ix y) ((fPU (ix y)) + (fPU (ix x)))) (ix x) 0), ar cI (mA 7) 40 (upd hDB k y), ar cI (mA 8) 40 hCR, ar cI (mA 14) 40 (upd hLF k 0), mo aM mA (nI nt) 0 td (nI nm) (nI np) isd ln rf rp sz nx kd wh pl rd rn ic mcm mcp mcr] H := hP
                          have hD : va_D A [ar cI (mA 5) 10 (upd (upd fPU (ix y) ((fPU (ix y)) + (fPU (ix x)))) (ix x) 0), ar cI (mA 7) 40 (upd hDB k y), ar cI (mA 8) 40 hCR, ar cI (mA 14) 40 (upd hLF k 0), mo aM mA (nI nt) 0 td (nI nm) (nI np) isd ln rf rp sz nx kd wh pl rd rn ic mcm mcp mcr] := hD
                          refine lv_aload_n hx hb dX8_heir_136 rfl (lv_at hl 1 rfl) ?_
                          refine va_get (D := D) (ci := 8) (v := .ref (mA 8)) (C := RX8) (T := TX8) (N := 44) hx hb hts inX8 hown hK hP 4 rfl rfl 8 (by decide) fl19 (fun _ h9 => h9) rfl dX8_heir_137 ?_
                          refine lv_iload_n hx hb dX8_heir_140 rfl (lv_at hl 4 rfl) ?_
                          refine m_iald (k := k) hx hb hK hP 2 0 rfl rfl (by omega) (by decide) dX8_heir_141 ?_
                          refine lv_iload_n hx hb dX8_heir_142 rfl (lv_at hl 2 rfl) ?_
                          refine lv_icmp_ne (tgt := 153) hx hb dX8_heir_143 (by decide) (fun c_143 => ?_) (fun c_143 => ?_)
                          · skip
                            refine lv_iinc (v := (nI (k + 1))) (lv' := [(3, .int (nI (k + 1))), (4, .int 1), (0, .ref aM), (1, .int x), (2, .int y)]) hx hb dX8_heir_153 hl (k := 4) rfl (nI_inc k 1 (by decide)) (by decide) rfl (fun ls hl => ?_)
                            refine lv_goto (tgt := 52) hx hb dX8_heir_156 (by decide) ?_
                            have hrl := rem_L (x := x) (y := y) (k := k) c_23 (hself k (by omega))
                            exact ih_52 (k + 1) (upd hDB k y) hCR (upd hLF k 0) (by omega) (by omega) (by first | exact fil_step h1 (by simp_all [rep]) | exact fil_skip h1 (by simp_all [rep])) (by first | exact fil_step h2 (by simp_all [rep]) | exact fil_skip h2 (by simp_all [rep])) (by first | exact fil_step h3 (by rw [hrl]; grind) | exact fil_skip h3 (by rw [hrl]; grind)) _ _ (hP) (hD) hS ls (lv_sub hl [2, 3, 4, 0] rfl)
                          · skip
                            refine lv_aload_n hx hb dX8_heir_146 rfl (lv_at hl 1 rfl) ?_
                            refine va_get (D := D) (ci := 8) (v := .ref (mA 8)) (C := RX8) (T := TX8) (N := 44) hx hb hts inX8 hown hK hP 4 rfl rfl 8 (by decide) fl19 (fun _ h9 => h9) rfl dX8_heir_147 ?_
                            refine lv_iload_n hx hb dX8_heir_150 rfl (lv_at hl 4 rfl) ?_
                            refine lv_iload_n hx hb dX8_heir_151 rfl (lv_at hl 3 rfl) ?_
                            refine m_iast (k := k) (x := y) hx hb hK hP hD hS 2 0 rfl rfl (by omega) (by decide) dX8_heir_152 (fun H locs hP hD hS => ?_)
                            have hP : va_P D vwCl [ar cI (mA 5) 10 (upd (upd fPU (ix y) ((fPU (ix y)) + (fPU (ix x)))) (ix x) 0), ar cI (mA 7) 40 (upd hDB k y), ar cI (mA 8) 40 (upd hCR k y), ar cI (mA 14) 40 (upd hLF k 0), mo aM mA (nI nt) 0 td (nI nm) (nI np) isd ln rf rp sz nx kd wh pl rd rn ic mcm mcp mcr] H := hP
                            have hD : va_D A [ar cI (mA 5) 10 (upd (upd fPU (ix y) ((fPU (ix y)) + (fPU (ix x)))) (ix x) 0), ar cI (mA 7) 40 (upd hDB k y), ar cI (mA 8) 40 (upd hCR k y), ar cI (mA 14) 40 (upd hLF k 0), mo aM mA (nI nt) 0 td (nI nm) (nI np) isd ln rf rp sz nx kd wh pl rd rn ic mcm mcp mcr] := hD
                            refine lv_iinc (v := (nI (k + 1))) (lv' := [(3, .int (nI (k + 1))), (4, .int 1), (0, .ref aM), (1, .int x), (2, .int y)]) hx hb dX8_heir_153 hl (k := 4) rfl (nI_inc k 1 (by decide)) (by decide) rfl (fun ls hl => ?_)
                            refine lv_goto (tgt := 52) hx hb dX8_heir_156 (by decide) ?_
                            have hrl := rem_L (x := x) (y := y) (k := k) c_23 (hself k (by omega))
                            exact ih_52 (k + 1) (upd hDB k y) (upd hCR k y) (upd hLF k 0) (by omega) (by omega) (by first | exact fil_step h1 (by simp_all [rep]) | exact fil_skip h1 (by simp_all [rep])) (by first | exact fil_step h2 (by simp_all [rep]) | exact fil_skip h2 (by simp_all [rep])) (by first | exact fil_step h3 (by rw [hrl]; grind) | exact fil_skip h3 (by rw [hrl]; grind)) _ _ (hP) (hD) hS ls (lv_sub hl [2, 3, 4, 0] rfl)
        exact L_52 ((np - 0) + 1) 0 fDB fCR fLF (Nat.lt_succ_self _) (by omega) (fil_0.symm) (fil_0.symm) (fil_0.symm) _ _ (hP) (hD) hS ls (lv_sub hl [1, 2, 3, 0] rfl)
      · skip
        refine lv_iconst (v := 0) hx hb dX8_heir_26 (by decide) ?_
        exact ret 0 (fPU, fDB, fCR, fLF) _ _ _ _ dX8_heir_27 (Or.inl rfl) (Or.inr ⟨by first | exact fun q => man_not hq_7 c_10 q.1 | exact fun q => man_not hq_15 c_18 q.2.1 | exact fun q => q.2.2 c_23, rfl, rfl, rfl, rfl, rfl⟩) (hP.sub [4, 0, 1, 2, 3] rfl) (hD.sub [4, 0, 1, 2, 3] (by decide) rfl) hS
