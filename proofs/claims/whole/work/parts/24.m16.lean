abbrev r_c_X8_wrong : Room := { frames := 0, cells := 0, slots := 0, locals := 0 }
set_option maxHeartbeats 4000000 in
set_option maxRecDepth 100000 in
theorem c_X8_wrong (l : Launch) (D : va_G) (cI cZ : ClassId) (aM : Nat) (mA : Nat → Nat) (nt : Nat) (th : Int32) (td : Int32) (nm : Nat) (np : Nat) (isd : Int32) (ln : Int32) (rf : Int32) (rp : Int32) (sz : Int32) (nx : Int32) (kd : Int32) (wh : Int32) (pl : Int32) (rd : Int32) (rn : Int32) (ic : Int32) (mcm : Int32) (mcp : Int32) (mcr : Int32) (x : Int32) (y : Int32)  : MI l yX8_wrong wsX8_wrong r_c_X8_wrong D cI cZ [.ref aM, .int x, .int y] [mo aM mA (nI nt) th td (nI nm) (nI np) isd ln rf rp sz nx kd wh pl rd rn ic mcm mcp mcr] (fun (r : Int32) (u : Unit) => r = 0) (fun (u : Unit) => [mo aM mA (nI nt) th td (nI nm) (nI np) isd ln x y sz nx kd wh pl rd rn ic mcm mcp mcr]) 0 0 := by
  refine MI.ofZ (cc := cX8_wrong) (maxL := 3) (by decide) rfl (Nat.le_of_ble_eq_true rfl) ?_
  intro p e s m below meth c A Q hx hb hml hown hts hN hK hA ret hP hD hS ls hl
  have hown : s.vm.findClass RX8 = some m.cls := hown
  have inX8 : ∀ w ∈ wsX80, w ∈ wsX8_wrong := by decide +kernel
  have fl50 := hts (.fieldLink RX8 50 "AdvanceBookModel" "faultPlace" "I") (by decide +kernel)
  have fl115 := hts (.fieldLink RX8 115 "AdvanceBookModel" "fault" "I") (by decide +kernel)
  have hP : va_P D vwCl [mo aM mA (nI nt) th td (nI nm) (nI np) isd ln rf rp sz nx kd wh pl rd rn ic mcm mcp mcr] s.heap := hP
  have hD : va_D A [mo aM mA (nI nt) th td (nI nm) (nI np) isd ln rf rp sz nx kd wh pl rd rn ic mcm mcp mcr] := hD
  have hl : lv_has ls 3 [(0, .ref aM), (1, .int x), (2, .int y)] := hl
  refine lv_aload_n hx hb dX8_wrong_0 rfl (lv_at hl 0 rfl) ?_
  refine lv_iload_n hx hb dX8_wrong_1 rfl (lv_at hl 1 rfl) ?_
  refine va_put (D := D) (ci := 8) (v := .int x) (ty := .int) (C := RX8) (T := TX8) (N := 44) hx hb hts inX8 tyX8 tyX8_ok nmX8 hown hK hP hD hS 0 rfl rfl 20 (by decide) fl115 (fun _ h9 => h9) rfl (by decide +kernel) (rfl) (rfl) (Nat.le_of_ble_eq_true rfl) dX8_wrong_2 (fun H locs hP hD hS => ?_)
  have hP : va_P D vwCl [mo aM mA (nI nt) th td (nI nm) (nI np) isd ln x rp sz nx kd wh pl rd rn ic mcm mcp mcr] H := hP
  have hD : va_D A [mo aM mA (nI nt) th td (nI nm) (nI np) isd ln x rp sz nx kd wh pl rd rn ic mcm mcp mcr] := hD
  refine lv_aload_n hx hb dX8_wrong_5 rfl (lv_at hl 0 rfl) ?_
  refine lv_iload_n hx hb dX8_wrong_6 rfl (lv_at hl 2 rfl) ?_
  refine va_put (D := D) (ci := 8) (v := .int y) (ty := .int) (C := RX8) (T := TX8) (N := 44) hx hb hts inX8 tyX8 tyX8_ok nmX8 hown hK hP hD hS 0 rfl rfl 21 (by decide) fl50 (fun _ h9 => h9) rfl (by decide +kernel) (rfl) (rfl) (Nat.le_of_ble_eq_true rfl) dX8_wrong_7 (fun H locs hP hD hS => ?_)
  have hP : va_P D vwCl [mo aM mA (nI nt) th td (nI nm) (nI np) isd ln x y sz nx kd wh pl rd rn ic mcm mcp mcr] H := hP
  have hD : va_D A [mo aM mA (nI nt) th td (nI nm) (nI np) isd ln x y sz nx kd wh pl rd rn ic mcm mcp mcr] := hD
  refine lv_iconst (v := 0) hx hb dX8_wrong_10 (by decide) ?_
  exact ret 0 () _ _ _ _ dX8_wrong_11 (Or.inl rfl) (rfl) (hP) (hD) hS
abbrev r_c_X8_isSmall : Room := { frames := 0, cells := 0, slots := 0, locals := 0 }
set_option maxHeartbeats 4000000 in
set_option maxRecDepth 100000 in
theorem c_X8_isSmall (l : Launch) (D : va_G) (cI cZ : ClassId) (aM : Nat) (mA : Nat → Nat) (nt : Nat) (th : Int32) (td : Int32) (nm : Nat) (np : Nat) (isd : Int32) (ln : Int32) (rf : Int32) (rp : Int32) (nx : Int32) (kd : Int32) (wh : Int32) (pl : Int32) (rd : Int32) (rn : Int32) (ic : Int32) (mcm : Int32) (mcp : Int32) (mcr : Int32) (fBY : Nat → Int32) (n : Nat) (k : Nat) (hn : n ≤ 300) (hk9 : k ≤ 300) : MI l yX8_isSmall wsX8_isSmall r_c_X8_isSmall D cI cZ [.ref aM, .int (nI k)] [mo aM mA (nI nt) th td (nI nm) (nI np) isd ln rf rp (nI n) nx kd wh pl rd rn ic mcm mcp mcr, ar cI (mA 0) 300 fBY] (fun (r : Int32) (u : Unit) => r = if k < n ∧ kindS (fBY k) = 1 then 1 else 0) (fun (u : Unit) => [mo aM mA (nI nt) th td (nI nm) (nI np) isd ln rf rp (nI n) nx kd wh pl rd rn ic mcm mcp mcr, ar cI (mA 0) 300 fBY]) 0 0 := by
  refine MI.ofZ (cc := cX8_isSmall) (maxL := 2) (by decide) rfl (Nat.le_of_ble_eq_true rfl) ?_
  intro p e s m below meth c A Q hx hb hml hown hts hN hK hA ret hP hD hS ls hl
  have hown : s.vm.findClass RX8 = some m.cls := hown
  have inX8 : ∀ w ∈ wsX80, w ∈ wsX8_isSmall := by decide +kernel
  have fl7 := hts (.fieldLink RX8 7 "AdvanceBookModel" "tape" "[I") (by decide +kernel)
  have fl118 := hts (.fieldLink RX8 118 "AdvanceBookModel" "size" "I") (by decide +kernel)
  have hP : va_P D vwCl [mo aM mA (nI nt) th td (nI nm) (nI np) isd ln rf rp (nI n) nx kd wh pl rd rn ic mcm mcp mcr, ar cI (mA 0) 300 fBY] s.heap := hP
  have hD : va_D A [mo aM mA (nI nt) th td (nI nm) (nI np) isd ln rf rp (nI n) nx kd wh pl rd rn ic mcm mcp mcr, ar cI (mA 0) 300 fBY] := hD
  have hl : lv_has ls 2 [(0, .ref aM), (1, .int (nI k))] := hl
  refine lv_iload_n hx hb dX8_isSmall_0 rfl (lv_at hl 1 rfl) ?_
  refine lv_aload_n hx hb dX8_isSmall_1 rfl (lv_at hl 0 rfl) ?_
  refine va_get (D := D) (ci := 8) (v := .int (nI n)) (C := RX8) (T := TX8) (N := 44) hx hb hts inX8 hown hK hP 0 rfl rfl 24 (by decide) fl118 (fun _ h9 => h9) rfl dX8_isSmall_2 ?_
  refine lv_icmp_ge (tgt := 34) hx hb dX8_isSmall_5 (by decide) (fun c_5 => ?_) (fun c_5 => ?_)
  · skip
    have k_5 : n ≤ k := (nI_leI (a := n) (b := k) (by omega) (by omega)).mp c_5
    refine lv_iconst (v := 0) hx hb dX8_isSmall_34 (by decide) ?_
    exact ret 0 () _ _ _ _ dX8_isSmall_35 (Or.inl rfl) (by simp only [kind_1]; (try simp only [Int32.not_lt, Int32.not_le] at *); grind) (hP) (hD) hS
  · skip
    have k_5 : ¬ n ≤ k := fun h9 => c_5 ((nI_leI (a := n) (b := k) (by omega) (by omega)).mpr h9)
    refine lv_aload_n hx hb dX8_isSmall_8 rfl (lv_at hl 0 rfl) ?_
    refine va_get (D := D) (ci := 8) (v := .ref (mA 0)) (C := RX8) (T := TX8) (N := 44) hx hb hts inX8 hown hK hP 0 rfl rfl 0 (by decide) fl7 (fun _ h9 => h9) rfl dX8_isSmall_9 ?_
    refine lv_iload_n hx hb dX8_isSmall_12 rfl (lv_at hl 1 rfl) ?_
    refine m_iald (k := k) hx hb hK hP 1 0 rfl rfl (by omega) (by decide) dX8_isSmall_13 ?_
    refine lv_bipush (v := 97) hx hb dX8_isSmall_14 (by decide) ?_
    refine lv_icmp_lt (tgt := 34) hx hb dX8_isSmall_16 (by decide) (fun c_16 => ?_) (fun c_16 => ?_)
    · skip
      refine lv_iconst (v := 0) hx hb dX8_isSmall_34 (by decide) ?_
      exact ret 0 () _ _ _ _ dX8_isSmall_35 (Or.inl rfl) (by simp only [kind_1]; (try simp only [Int32.not_lt, Int32.not_le] at *); grind) (hP) (hD) hS
    · skip
      refine lv_aload_n hx hb dX8_isSmall_19 rfl (lv_at hl 0 rfl) ?_
      refine va_get (D := D) (ci := 8) (v := .ref (mA 0)) (C := RX8) (T := TX8) (N := 44) hx hb hts inX8 hown hK hP 0 rfl rfl 0 (by decide) fl7 (fun _ h9 => h9) rfl dX8_isSmall_20 ?_
      refine lv_iload_n hx hb dX8_isSmall_23 rfl (lv_at hl 1 rfl) ?_
      refine m_iald (k := k) hx hb hK hP 1 0 rfl rfl (by omega) (by decide) dX8_isSmall_24 ?_
      refine lv_bipush (v := 122) hx hb dX8_isSmall_25 (by decide) ?_
      refine lv_icmp_gt (tgt := 34) hx hb dX8_isSmall_27 (by decide) (fun c_27 => ?_) (fun c_27 => ?_)
      · skip
        refine lv_iconst (v := 0) hx hb dX8_isSmall_34 (by decide) ?_
        exact ret 0 () _ _ _ _ dX8_isSmall_35 (Or.inl rfl) (by simp only [kind_1]; (try simp only [Int32.not_lt, Int32.not_le] at *); grind) (hP) (hD) hS
      · skip
        refine lv_iconst (v := 1) hx hb dX8_isSmall_30 (by decide) ?_
        refine lv_goto (tgt := 35) hx hb dX8_isSmall_31 (by decide) ?_
        exact ret 1 () _ _ _ _ dX8_isSmall_35 (Or.inr rfl) (by simp only [kind_1]; (try simp only [Int32.not_lt, Int32.not_le] at *); grind) (hP) (hD) hS
abbrev r_c_X8_isDigit : Room := { frames := 0, cells := 0, slots := 0, locals := 0 }
set_option maxHeartbeats 4000000 in
set_option maxRecDepth 100000 in
theorem c_X8_isDigit (l : Launch) (D : va_G) (cI cZ : ClassId) (aM : Nat) (mA : Nat → Nat) (nt : Nat) (th : Int32) (td : Int32) (nm : Nat) (np : Nat) (isd : Int32) (ln : Int32) (rf : Int32) (rp : Int32) (nx : Int32) (kd : Int32) (wh : Int32) (pl : Int32) (rd : Int32) (rn : Int32) (ic : Int32) (mcm : Int32) (mcp : Int32) (mcr : Int32) (fBY : Nat → Int32) (n : Nat) (k : Nat) (hn : n ≤ 300) (hk9 : k ≤ 300) : MI l yX8_isDigit wsX8_isDigit r_c_X8_isDigit D cI cZ [.ref aM, .int (nI k)] [mo aM mA (nI nt) th td (nI nm) (nI np) isd ln rf rp (nI n) nx kd wh pl rd rn ic mcm mcp mcr, ar cI (mA 0) 300 fBY] (fun (r : Int32) (u : Unit) => r = if k < n ∧ kindS (fBY k) = 2 then 1 else 0) (fun (u : Unit) => [mo aM mA (nI nt) th td (nI nm) (nI np) isd ln rf rp (nI n) nx kd wh pl rd rn ic mcm mcp mcr, ar cI (mA 0) 300 fBY]) 0 0 := by
  refine MI.ofZ (cc := cX8_isDigit) (maxL := 2) (by decide) rfl (Nat.le_of_ble_eq_true rfl) ?_
  intro p e s m below meth c A Q hx hb hml hown hts hN hK hA ret hP hD hS ls hl
  have hown : s.vm.findClass RX8 = some m.cls := hown
  have inX8 : ∀ w ∈ wsX80, w ∈ wsX8_isDigit := by decide +kernel
  have fl7 := hts (.fieldLink RX8 7 "AdvanceBookModel" "tape" "[I") (by decide +kernel)
  have fl118 := hts (.fieldLink RX8 118 "AdvanceBookModel" "size" "I") (by decide +kernel)
  have hP : va_P D vwCl [mo aM mA (nI nt) th td (nI nm) (nI np) isd ln rf rp (nI n) nx kd wh pl rd rn ic mcm mcp mcr, ar cI (mA 0) 300 fBY] s.heap := hP
  have hD : va_D A [mo aM mA (nI nt) th td (nI nm) (nI np) isd ln rf rp (nI n) nx kd wh pl rd rn ic mcm mcp mcr, ar cI (mA 0) 300 fBY] := hD
  have hl : lv_has ls 2 [(0, .ref aM), (1, .int (nI k))] := hl
  refine lv_iload_n hx hb dX8_isDigit_0 rfl (lv_at hl 1 rfl) ?_
  refine lv_aload_n hx hb dX8_isDigit_1 rfl (lv_at hl 0 rfl) ?_
  refine va_get (D := D) (ci := 8) (v := .int (nI n)) (C := RX8) (T := TX8) (N := 44) hx hb hts inX8 hown hK hP 0 rfl rfl 24 (by decide) fl118 (fun _ h9 => h9) rfl dX8_isDigit_2 ?_
  refine lv_icmp_ge (tgt := 34) hx hb dX8_isDigit_5 (by decide) (fun c_5 => ?_) (fun c_5 => ?_)
  · skip
    have k_5 : n ≤ k := (nI_leI (a := n) (b := k) (by omega) (by omega)).mp c_5
    refine lv_iconst (v := 0) hx hb dX8_isDigit_34 (by decide) ?_
    exact ret 0 () _ _ _ _ dX8_isDigit_35 (Or.inl rfl) (by simp only [kind_2]; (try simp only [Int32.not_lt, Int32.not_le] at *); grind) (hP) (hD) hS
  · skip
    have k_5 : ¬ n ≤ k := fun h9 => c_5 ((nI_leI (a := n) (b := k) (by omega) (by omega)).mpr h9)
    refine lv_aload_n hx hb dX8_isDigit_8 rfl (lv_at hl 0 rfl) ?_
    refine va_get (D := D) (ci := 8) (v := .ref (mA 0)) (C := RX8) (T := TX8) (N := 44) hx hb hts inX8 hown hK hP 0 rfl rfl 0 (by decide) fl7 (fun _ h9 => h9) rfl dX8_isDigit_9 ?_
    refine lv_iload_n hx hb dX8_isDigit_12 rfl (lv_at hl 1 rfl) ?_
    refine m_iald (k := k) hx hb hK hP 1 0 rfl rfl (by omega) (by decide) dX8_isDigit_13 ?_
    refine lv_bipush (v := 48) hx hb dX8_isDigit_14 (by decide) ?_
    refine lv_icmp_lt (tgt := 34) hx hb dX8_isDigit_16 (by decide) (fun c_16 => ?_) (fun c_16 => ?_)
    · skip
      refine lv_iconst (v := 0) hx hb dX8_isDigit_34 (by decide) ?_
      exact ret 0 () _ _ _ _ dX8_isDigit_35 (Or.inl rfl) (by simp only [kind_2]; (try simp only [Int32.not_lt, Int32.not_le] at *); grind) (hP) (hD) hS
    · skip
      refine lv_aload_n hx hb dX8_isDigit_19 rfl (lv_at hl 0 rfl) ?_
      refine va_get (D := D) (ci := 8) (v := .ref (mA 0)) (C := RX8) (T := TX8) (N := 44) hx hb hts inX8 hown hK hP 0 rfl rfl 0 (by decide) fl7 (fun _ h9 => h9) rfl dX8_isDigit_20 ?_
      refine lv_iload_n hx hb dX8_isDigit_23 rfl (lv_at hl 1 rfl) ?_
      refine m_iald (k := k) hx hb hK hP 1 0 rfl rfl (by omega) (by decide) dX8_isDigit_24 ?_
      refine lv_bipush (v := 57) hx hb dX8_isDigit_25 (by decide) ?_
      refine lv_icmp_gt (tgt := 34) hx hb dX8_isDigit_27 (by decide) (fun c_27 => ?_) (fun c_27 => ?_)
      · skip
        refine lv_iconst (v := 0) hx hb dX8_isDigit_34 (by decide) ?_
        exact ret 0 () _ _ _ _ dX8_isDigit_35 (Or.inl rfl) (by simp only [kind_2]; (try simp only [Int32.not_lt, Int32.not_le] at *); grind) (hP) (hD) hS
      · skip
        refine lv_iconst (v := 1) hx hb dX8_isDigit_30 (by decide) ?_
        refine lv_goto (tgt := 35) hx hb dX8_isDigit_31 (by decide) ?_
        exact ret 1 () _ _ _ _ dX8_isDigit_35 (Or.inr rfl) (by simp only [kind_2]; (try simp only [Int32.not_lt, Int32.not_le] at *); grind) (hP) (hD) hS
abbrev r_c_X8_wordAt : Room := { frames := 0, cells := 0, slots := 0, locals := 0 }
set_option maxHeartbeats 4000000 in
set_option maxRecDepth 100000 in
theorem c_X8_wordAt (l : Launch) (D : va_G) (cI cZ : ClassId) (aM : Nat) (mA : Nat → Nat) (nt : Nat) (th : Int32) (td : Int32) (nm : Nat) (np : Nat) (isd : Int32) (ln : Int32) (rf : Int32) (rp : Int32) (sz : Int32) (nx : Int32) (kd : Int32) (wh : Int32) (pl : Int32) (rd : Int32) (rn : Int32) (ic : Int32) (mcm : Int32) (mcp : Int32) (mcr : Int32) (fWD : Nat → Int32) (fBY : Nat → Int32) (a1 : Nat) (b1 : Nat) (hab : a1 ≤ b1) (hb3 : b1 ≤ 300) (hwd : ∀ j, j < 22 → fWD j = wdF j) : MI l yX8_wordAt wsX8_wordAt r_c_X8_wordAt D cI cZ [.ref aM, .int (nI a1), .int (nI b1)] [mo aM mA (nI nt) th td (nI nm) (nI np) isd ln rf rp sz nx kd wh pl rd rn ic mcm mcp mcr, ar cI (mA 23) 22 fWD, ar cI (mA 0) 300 fBY] (fun (r : Int32) (u : Unit) => r = wI fBY a1 b1) (fun (u : Unit) => [mo aM mA (nI nt) th td (nI nm) (nI np) isd ln rf rp sz nx kd wh pl rd rn ic mcm mcp mcr, ar cI (mA 23) 22 fWD, ar cI (mA 0) 300 fBY]) 0 0 := by
  refine MI.of (cc := cX8_wordAt) (maxL := 8) (by decide) rfl (Nat.le_of_ble_eq_true rfl) ?_
  intro p e s m below meth c A Q hx hb hml hown hts hN hK hA ret hP hD hS ls hl
  have hown : s.vm.findClass RX8 = some m.cls := hown
  have inX8 : ∀ w ∈ wsX80, w ∈ wsX8_wordAt := by decide +kernel
  have fl7 := hts (.fieldLink RX8 7 "AdvanceBookModel" "tape" "[I") (by decide +kernel)
  have fl57 := hts (.fieldLink RX8 57 "AdvanceBookModel" "words" "[I") (by decide +kernel)
  have hP : va_P D vwCl [mo aM mA (nI nt) th td (nI nm) (nI np) isd ln rf rp sz nx kd wh pl rd rn ic mcm mcp mcr, ar cI (mA 23) 22 fWD, ar cI (mA 0) 300 fBY] s.heap := hP
  have hD : va_D A [mo aM mA (nI nt) th td (nI nm) (nI np) isd ln rf rp sz nx kd wh pl rd rn ic mcm mcp mcr, ar cI (mA 23) 22 fWD, ar cI (mA 0) 300 fBY] := hD
  have hl : lv_has ls 8 [(0, .ref aM), (1, .int (nI a1)), (2, .int (nI b1))] := hl
  refine lv_iconst (v := 0) hx hb dX8_wordAt_0 (by decide) ?_
  refine lv_istore_n (lv' := [(3, .int 0), (0, .ref aM), (1, .int (nI a1)), (2, .int (nI b1))]) hx hb dX8_wordAt_1 rfl hl (by decide) rfl (fun ls hl => ?_)
  refine lv_iconst (v := 0) hx hb dX8_wordAt_2 (by decide) ?_
  refine lv_istore (lv' := [(4, .int 0), (3, .int 0), (0, .ref aM), (1, .int (nI a1)), (2, .int (nI b1))]) hx hb dX8_wordAt_3 hl (by decide) rfl (fun ls hl => ?_)
  have L_5 : ∀ (n_5 : Nat) (K : Nat), (4 - K < n_5) → (K ≤ 4) → (∀ i, i < K → ¬ isW fBY a1 b1 (wO i) (wL i)) → ∀ (H : Heap) (locs : List Loc), va_P D vwCl [mo aM mA (nI nt) th td (nI nm) (nI np) isd ln rf rp sz nx kd wh pl rd rn ic mcm mcp mcr, ar cI (mA 23) 22 fWD, ar cI (mA 0) 300 fBY] H → va_D A [mo aM mA (nI nt) th td (nI nm) (nI np) isd ln rf rp sz nx kd wh pl rd rn ic mcm mcp mcr, ar cI (mA 23) 22 fWD, ar cI (mA 0) 300 fBY] → va_S A s.heap H locs → ∀ ls : Array Slot, lv_has ls 8 [(0, .ref aM), (1, .int (nI a1)), (2, .int (nI b1)), (3, .int (nI K)), (4, .int (nI (wO K)))] → W p l e r_c_X8_wordAt s m (([.ref aM, .int (nI a1), .int (nI b1)] : List Value).toArray) below meth c H locs 0 0 Q (F0 m 5 ls []) := by
    intro n_5
    induction n_5 with
    | zero => intro K hfu; exact absurd hfu (Nat.not_lt_zero _)
    | succ n_5 ih_5 =>
      intro K hfu_5 hK4 hno H locs hP hD hS ls hl
      have hwo := wO_le K hK4
      have hwl := wO_lt K hK4
      refine lv_iload hx hb dX8_wordAt_5 (lv_at hl 4 rfl) ?_
      refine lv_aload_n hx hb dX8_wordAt_7 rfl (lv_at hl 0 rfl) ?_
      refine va_get (D := D) (ci := 8) (v := .ref (mA 23)) (C := RX8) (T := TX8) (N := 44) hx hb hts inX8 hown hK hP 0 rfl rfl 23 (by decide) fl57 (fun _ h9 => h9) rfl dX8_wordAt_8 ?_
      refine va_alen (v := nI 22) hx hb hK hP 1 0 rfl rfl rfl dX8_wordAt_11 ?_
      refine lv_icmp_ge (tgt := 126) hx hb dX8_wordAt_12 (by decide) (fun c_12 => ?_) (fun c_12 => ?_)
      · skip
        have k_12 : 22 ≤ (wO K) := (nI_leI (a := 22) (b := (wO K)) (by omega) (by omega)).mp c_12
        refine lv_iconst (v := (-1)) hx hb dX8_wordAt_126 (by decide) ?_
        exact ret (-1) () _ _ _ _ dX8_wordAt_127 (wI_no (by have e9 := hwl.mp k_12; subst e9; exact hno)) (hP) (hD) hS
      · skip
        have k_12 : ¬ 22 ≤ (wO K) := fun h9 => c_12 ((nI_leI (a := 22) (b := (wO K)) (by omega) (by omega)).mpr h9)
        have hK5 : K < 4 := (by omega)
        have hol := wO_L K hK5
        refine lv_iconst (v := 0) hx hb dX8_wordAt_15 (by decide) ?_
        refine lv_istore (lv' := [(5, .int 0), (0, .ref aM), (1, .int (nI a1)), (2, .int (nI b1)), (3, .int (nI K)), (4, .int (nI (wO K)))]) hx hb dX8_wordAt_16 hl (by decide) rfl (fun ls hl => ?_)
        have L_18 : ∀ (n_18 : Nat) (j : Nat), (wL K - j < n_18) → (j ≤ wL K) → ∀ (H : Heap) (locs : List Loc), va_P D vwCl [mo aM mA (nI nt) th td (nI nm) (nI np) isd ln rf rp sz nx kd wh pl rd rn ic mcm mcp mcr, ar cI (mA 23) 22 fWD, ar cI (mA 0) 300 fBY] H → va_D A [mo aM mA (nI nt) th td (nI nm) (nI np) isd ln rf rp sz nx kd wh pl rd rn ic mcm mcp mcr, ar cI (mA 23) 22 fWD, ar cI (mA 0) 300 fBY] → va_S A s.heap H locs → ∀ ls : Array Slot, lv_has ls 8 [(0, .ref aM), (1, .int (nI a1)), (2, .int (nI b1)), (3, .int (nI K)), (4, .int (nI (wO K))), (5, .int (nI j))] → W p l e r_c_X8_wordAt s m (([.ref aM, .int (nI a1), .int (nI b1)] : List Value).toArray) below meth c H locs 0 0 Q (F0 m 18 ls []) := by
          intro n_18
          induction n_18 with
          | zero => intro j hfu; exact absurd hfu (Nat.not_lt_zero _)
          | succ n_18 ih_18 =>
            intro j hfu_18 hj H locs hP hD hS ls hl
            have hix0 : wO K + j < 22 := (by omega)
            refine lv_aload_n hx hb dX8_wordAt_18 rfl (lv_at hl 0 rfl) ?_
            refine va_get (D := D) (ci := 8) (v := .ref (mA 23)) (C := RX8) (T := TX8) (N := 44) hx hb hts inX8 hown hK hP 0 rfl rfl 23 (by decide) fl57 (fun _ h9 => h9) rfl dX8_wordAt_19 ?_
            refine lv_iload hx hb dX8_wordAt_22 (lv_at hl 4 rfl) ?_
            refine lv_iload hx hb dX8_wordAt_24 (lv_at hl 5 rfl) ?_
            refine m_iaddN (a := (wO K)) (b := j) hx hb dX8_wordAt_26 ?_
            refine m_iald (k := ((wO K) + j)) hx hb hK hP 1 0 rfl rfl (hix0) (by decide) dX8_wordAt_27 ?_
            refine lv_bipush (v := 32) hx hb dX8_wordAt_28 (by decide) ?_
            refine lv_icmp_eq (tgt := 39) hx hb dX8_wordAt_30 (by decide) (fun c_30 => ?_) (fun c_30 => ?_)
            · skip
              have ej : j = wL K := (wd_sp K hK5 j hj).mp (by rw [← hwd _ hix0]; exact c_30)
              subst ej
              refine lv_iload hx hb dX8_wordAt_39 (lv_at hl 5 rfl) ?_
              refine lv_iload_n hx hb dX8_wordAt_41 rfl (lv_at hl 2 rfl) ?_
              refine lv_iload_n hx hb dX8_wordAt_42 rfl (lv_at hl 1 rfl) ?_
              refine lv_isub hx hb dX8_wordAt_43 ?_
              rw [pk_sub hab]
              refine lv_icmp_ne (tgt := 51) hx hb dX8_wordAt_44 (by decide) (fun c_44 => ?_) (fun c_44 => ?_)
              · skip
                have k_44 : ¬ (wL K) = (b1 - a1) := fun h9 => c_44 ((nI_eq (a := (wL K)) (b := (b1 - a1)) (by omega) (by omega)).mpr h9)
                refine lv_iconst (v := 0) hx hb dX8_wordAt_51 (by decide) ?_
                refine lv_istore (lv' := [(6, .int 0), (0, .ref aM), (1, .int (nI a1)), (2, .int (nI b1)), (3, .int (nI K)), (4, .int (nI (wO K))), (5, .int (nI (wL K)))]) hx hb dX8_wordAt_52 hl (by decide) rfl (fun ls hl => ?_)
                refine lv_iconst (v := 0) hx hb dX8_wordAt_54 (by decide) ?_
                refine lv_istore (lv' := [(7, .int 0), (6, .int 0), (0, .ref aM), (1, .int (nI a1)), (2, .int (nI b1)), (3, .int (nI K)), (4, .int (nI (wO K))), (5, .int (nI (wL K)))]) hx hb dX8_wordAt_55 hl (by decide) rfl (fun ls hl => ?_)
                have L_57 : ∀ (n_57 : Nat) (i9 : Nat) (sm : Int32), (wL K - i9 < n_57) → (i9 ≤ wL K) → ((sm = 1 ∧ wL K = b1 - a1 ∧ ∀ j, j < i9 → fBY (a1 + j) = wdF (wO K + j)) ∨ (sm = 0 ∧ ¬ isW fBY a1 b1 (wO K) (wL K))) → ∀ (H : Heap) (locs : List Loc), va_P D vwCl [mo aM mA (nI nt) th td (nI nm) (nI np) isd ln rf rp sz nx kd wh pl rd rn ic mcm mcp mcr, ar cI (mA 23) 22 fWD, ar cI (mA 0) 300 fBY] H → va_D A [mo aM mA (nI nt) th td (nI nm) (nI np) isd ln rf rp sz nx kd wh pl rd rn ic mcm mcp mcr, ar cI (mA 23) 22 fWD, ar cI (mA 0) 300 fBY] → va_S A s.heap H locs → ∀ ls : Array Slot, lv_has ls 8 [(0, .ref aM), (1, .int (nI a1)), (2, .int (nI b1)), (3, .int (nI K)), (4, .int (nI (wO K))), (5, .int (nI (wL K))), (6, .int sm), (7, .int (nI i9))] → W p l e r_c_X8_wordAt s m (([.ref aM, .int (nI a1), .int (nI b1)] : List Value).toArray) below meth c H locs 0 0 Q (F0 m 57 ls []) := by
                  intro n_57
                  induction n_57 with
                  | zero => intro i9 sm hfu; exact absurd hfu (Nat.not_lt_zero _)
                  | succ n_57 ih_57 =>
                    intro i9 sm hfu_57 hi hsm H locs hP hD hS ls hl
                    refine lv_iload hx hb dX8_wordAt_57 (lv_at hl 7 rfl) ?_
                    refine lv_iload hx hb dX8_wordAt_59 (lv_at hl 5 rfl) ?_
                    refine lv_icmp_ge (tgt := 104) hx hb dX8_wordAt_61 (by decide) (fun c_61 => ?_) (fun c_61 => ?_)
                    · skip
                      have k_61 : (wL K) ≤ i9 := (nI_leI (a := (wL K)) (b := i9) (by omega) (by omega)).mp c_61
                      refine lv_iload hx hb dX8_wordAt_104 (lv_at hl 6 rfl) ?_
                      refine lv_if_eq (tgt := 111) hx hb dX8_wordAt_106 (by decide) (fun c_106 => ?_) (fun c_106 => ?_)
                      · skip
                        refine lv_iload hx hb dX8_wordAt_111 (lv_at hl 4 rfl) ?_
                        refine lv_iload hx hb dX8_wordAt_113 (lv_at hl 5 rfl) ?_
                        refine lv_iconst (v := 1) hx hb dX8_wordAt_115 (by decide) ?_
                        refine m_iaddN (a := (wL K)) (b := 1) hx hb dX8_wordAt_116 ?_
                        refine m_iaddN (a := (wO K)) (b := ((wL K) + 1)) hx hb dX8_wordAt_117 ?_
                        rw [wO_succ K hK5]
                        refine lv_istore (lv' := [(4, .int (nI (wO (K + 1)))), (0, .ref aM), (1, .int (nI a1)), (2, .int (nI b1)), (3, .int (nI K)), (5, .int (nI (wL K))), (6, .int sm), (7, .int (nI i9))]) hx hb dX8_wordAt_118 hl (by decide) rfl (fun ls hl => ?_)
                        refine lv_iinc (v := (nI (K + 1))) (lv' := [(3, .int (nI (K + 1))), (4, .int (nI (wO (K + 1)))), (0, .ref aM), (1, .int (nI a1)), (2, .int (nI b1)), (5, .int (nI (wL K))), (6, .int sm), (7, .int (nI i9))]) hx hb dX8_wordAt_120 hl (k := 4) rfl (nI_inc K 1 (by decide)) (by decide) rfl (fun ls hl => ?_)
                        refine lv_goto (tgt := 5) hx hb dX8_wordAt_123 (by decide) ?_
                        exact ih_5 (K + 1) (by omega) (by omega) (fun i hi => by rcases Nat.lt_succ_iff_lt_or_eq.mp hi with q | q; exact hno i q; subst q; exact (hsm.resolve_left (fun q => by rw [q.1] at c_106; exact absurd c_106 (by decide))).2) _ _ (hP) (hD) hS ls (lv_sub hl [2, 3, 4, 0, 1] rfl)
                      · skip
                        refine lv_iload_n hx hb dX8_wordAt_109 rfl (lv_at hl 3 rfl) ?_
                        exact ret (nI K) () _ _ _ _ dX8_wordAt_110 (by have hs1 := hsm.resolve_right (fun q => c_106 q.1); have hi9 : wL K ≤ i9 := (by first | exact k_61 | exact absurd c_66 c_106); exact wI_at hK5 hno ⟨hs1.2.1, fun j hj => hs1.2.2 j (Nat.lt_of_lt_of_le hj hi9)⟩) (hP) (hD) hS
                    · skip
                      have k_61 : ¬ (wL K) ≤ i9 := fun h9 => c_61 ((nI_leI (a := (wL K)) (b := i9) (by omega) (by omega)).mpr h9)
                      refine lv_iload hx hb dX8_wordAt_64 (lv_at hl 6 rfl) ?_
                      refine lv_if_eq (tgt := 104) hx hb dX8_wordAt_66 (by decide) (fun c_66 => ?_) (fun c_66 => ?_)
                      · skip
                        refine lv_iload hx hb dX8_wordAt_104 (lv_at hl 6 rfl) ?_
                        refine lv_if_eq (tgt := 111) hx hb dX8_wordAt_106 (by decide) (fun c_106 => ?_) (fun c_106 => ?_)
                        · skip
                          refine lv_iload hx hb dX8_wordAt_111 (lv_at hl 4 rfl) ?_
                          refine lv_iload hx hb dX8_wordAt_113 (lv_at hl 5 rfl) ?_
                          refine lv_iconst (v := 1) hx hb dX8_wordAt_115 (by decide) ?_
                          refine m_iaddN (a := (wL K)) (b := 1) hx hb dX8_wordAt_116 ?_
                          refine m_iaddN (a := (wO K)) (b := ((wL K) + 1)) hx hb dX8_wordAt_117 ?_
                          rw [wO_succ K hK5]
                          refine lv_istore (lv' := [(4, .int (nI (wO (K + 1)))), (0, .ref aM), (1, .int (nI a1)), (2, .int (nI b1)), (3, .int (nI K)), (5, .int (nI (wL K))), (6, .int sm), (7, .int (nI i9))]) hx hb dX8_wordAt_118 hl (by decide) rfl (fun ls hl => ?_)
                          refine lv_iinc (v := (nI (K + 1))) (lv' := [(3, .int (nI (K + 1))), (4, .int (nI (wO (K + 1)))), (0, .ref aM), (1, .int (nI a1)), (2, .int (nI b1)), (5, .int (nI (wL K))), (6, .int sm), (7, .int (nI i9))]) hx hb dX8_wordAt_120 hl (k := 4) rfl (nI_inc K 1 (by decide)) (by decide) rfl (fun ls hl => ?_)
                          refine lv_goto (tgt := 5) hx hb dX8_wordAt_123 (by decide) ?_
                          exact ih_5 (K + 1) (by omega) (by omega) (fun i hi => by rcases Nat.lt_succ_iff_lt_or_eq.mp hi with q | q; exact hno i q; subst q; exact (hsm.resolve_left (fun q => by rw [q.1] at c_106; exact absurd c_106 (by decide))).2) _ _ (hP) (hD) hS ls (lv_sub hl [2, 3, 4, 0, 1] rfl)
                        · skip
                          refine lv_iload_n hx hb dX8_wordAt_109 rfl (lv_at hl 3 rfl) ?_
                          exact ret (nI K) () _ _ _ _ dX8_wordAt_110 (by have hs1 := hsm.resolve_right (fun q => c_106 q.1); have hi9 : wL K ≤ i9 := (by first | exact k_61 | exact absurd c_66 c_106); exact wI_at hK5 hno ⟨hs1.2.1, fun j hj => hs1.2.2 j (Nat.lt_of_lt_of_le hj hi9)⟩) (hP) (hD) hS
                      · skip
                        have hs1 := hsm.resolve_right (fun q => c_66 q.1)
                        have hlen := hs1.2.1
                        have hall := hs1.2.2
                        clear hs1
                        have hix : wO K + i9 < 22 := (by clear hsm; omega)
                        refine lv_aload_n hx hb dX8_wordAt_69 rfl (lv_at hl 0 rfl) ?_
                        refine va_get (D := D) (ci := 8) (v := .ref (mA 23)) (C := RX8) (T := TX8) (N := 44) hx hb hts inX8 hown hK hP 0 rfl rfl 23 (by decide) fl57 (fun _ h9 => h9) rfl dX8_wordAt_70 ?_
                        refine lv_iload hx hb dX8_wordAt_73 (lv_at hl 4 rfl) ?_
                        refine lv_iload hx hb dX8_wordAt_75 (lv_at hl 7 rfl) ?_
                        refine m_iaddN (a := (wO K)) (b := i9) hx hb dX8_wordAt_77 ?_
                        refine m_iald (k := ((wO K) + i9)) hx hb hK hP 1 0 rfl rfl (hix) (by decide) dX8_wordAt_78 ?_
                        refine lv_aload_n hx hb dX8_wordAt_79 rfl (lv_at hl 0 rfl) ?_
                        refine va_get (D := D) (ci := 8) (v := .ref (mA 0)) (C := RX8) (T := TX8) (N := 44) hx hb hts inX8 hown hK hP 0 rfl rfl 0 (by decide) fl7 (fun _ h9 => h9) rfl dX8_wordAt_80 ?_
                        refine lv_iload_n hx hb dX8_wordAt_83 rfl (lv_at hl 1 rfl) ?_
                        refine lv_iload hx hb dX8_wordAt_84 (lv_at hl 7 rfl) ?_
                        refine m_iaddN (a := a1) (b := i9) hx hb dX8_wordAt_86 ?_
                        refine m_iald (k := (a1 + i9)) hx hb hK hP 2 0 rfl rfl (by clear hsm; omega) (by decide) dX8_wordAt_87 ?_
                        refine lv_icmp_ne (tgt := 95) hx hb dX8_wordAt_88 (by decide) (fun c_88 => ?_) (fun c_88 => ?_)
                        · skip
                          refine lv_iconst (v := 0) hx hb dX8_wordAt_95 (by decide) ?_
                          refine lv_istore (lv' := [(6, .int 0), (0, .ref aM), (1, .int (nI a1)), (2, .int (nI b1)), (3, .int (nI K)), (4, .int (nI (wO K))), (5, .int (nI (wL K))), (7, .int (nI i9))]) hx hb dX8_wordAt_96 hl (by decide) rfl (fun ls hl => ?_)
                          refine lv_iinc (v := (nI (i9 + 1))) (lv' := [(7, .int (nI (i9 + 1))), (6, .int 0), (0, .ref aM), (1, .int (nI a1)), (2, .int (nI b1)), (3, .int (nI K)), (4, .int (nI (wO K))), (5, .int (nI (wL K)))]) hx hb dX8_wordAt_98 hl (k := 7) rfl (nI_inc i9 1 (by decide)) (by decide) rfl (fun ls hl => ?_)
                          refine lv_goto (tgt := 57) hx hb dX8_wordAt_101 (by decide) ?_
                          exact ih_57 (i9 + 1) 0 (by omega) (by omega) (Or.inr ⟨rfl, fun q => c_88 (by rw [hwd _ hix, q.2 i9 (Nat.lt_of_not_le k_61)])⟩) _ _ (hP) (hD) hS ls (lv_sub hl [2, 3, 4, 5, 6, 7, 1, 0] rfl)
                        · skip
                          refine lv_iconst (v := 1) hx hb dX8_wordAt_91 (by decide) ?_
                          refine lv_goto (tgt := 96) hx hb dX8_wordAt_92 (by decide) ?_
                          refine lv_istore (lv' := [(6, .int 1), (0, .ref aM), (1, .int (nI a1)), (2, .int (nI b1)), (3, .int (nI K)), (4, .int (nI (wO K))), (5, .int (nI (wL K))), (7, .int (nI i9))]) hx hb dX8_wordAt_96 hl (by decide) rfl (fun ls hl => ?_)
                          refine lv_iinc (v := (nI (i9 + 1))) (lv' := [(7, .int (nI (i9 + 1))), (6, .int 1), (0, .ref aM), (1, .int (nI a1)), (2, .int (nI b1)), (3, .int (nI K)), (4, .int (nI (wO K))), (5, .int (nI (wL K)))]) hx hb dX8_wordAt_98 hl (k := 7) rfl (nI_inc i9 1 (by decide)) (by decide) rfl (fun ls hl => ?_)
                          refine lv_goto (tgt := 57) hx hb dX8_wordAt_101 (by decide) ?_
                          exact ih_57 (i9 + 1) 1 (by omega) (by omega) (Or.inl ⟨rfl, hlen, fun j hj => by rcases Nat.lt_succ_iff_lt_or_eq.mp hj with q | q; exact hall j q; subst q; rw [← hwd _ hix]; exact c_88.symm⟩) _ _ (hP) (hD) hS ls (lv_sub hl [2, 3, 4, 5, 6, 7, 1, 0] rfl)
                exact L_57 ((wL K - 0) + 1) 0 0 (Nat.lt_succ_self _) (by omega) (Or.inr ⟨rfl, fun q => k_44 q.1⟩) _ _ (hP) (hD) hS ls (lv_sub hl [2, 3, 4, 5, 6, 7, 1, 0] rfl)
              · skip
                have k_44 : (wL K) = (b1 - a1) := (nI_eq (a := (wL K)) (b := (b1 - a1)) (by omega) (by omega)).mp c_44
                refine lv_iconst (v := 1) hx hb dX8_wordAt_47 (by decide) ?_
                refine lv_goto (tgt := 52) hx hb dX8_wordAt_48 (by decide) ?_
                refine lv_istore (lv' := [(6, .int 1), (0, .ref aM), (1, .int (nI a1)), (2, .int (nI b1)), (3, .int (nI K)), (4, .int (nI (wO K))), (5, .int (nI (wL K)))]) hx hb dX8_wordAt_52 hl (by decide) rfl (fun ls hl => ?_)
                refine lv_iconst (v := 0) hx hb dX8_wordAt_54 (by decide) ?_
                refine lv_istore (lv' := [(7, .int 0), (6, .int 1), (0, .ref aM), (1, .int (nI a1)), (2, .int (nI b1)), (3, .int (nI K)), (4, .int (nI (wO K))), (5, .int (nI (wL K)))]) hx hb dX8_wordAt_55 hl (by decide) rfl (fun ls hl => ?_)
                have L_57 : ∀ (n_57 : Nat) (i9 : Nat) (sm : Int32), (wL K - i9 < n_57) → (i9 ≤ wL K) → ((sm = 1 ∧ wL K = b1 - a1 ∧ ∀ j, j < i9 → fBY (a1 + j) = wdF (wO K + j)) ∨ (sm = 0 ∧ ¬ isW fBY a1 b1 (wO K) (wL K))) → ∀ (H : Heap) (locs : List Loc), va_P D vwCl [mo aM mA (nI nt) th td (nI nm) (nI np) isd ln rf rp sz nx kd wh pl rd rn ic mcm mcp mcr, ar cI (mA 23) 22 fWD, ar cI (mA 0) 300 fBY] H → va_D A [mo aM mA (nI nt) th td (nI nm) (nI np) isd ln rf rp sz nx kd wh pl rd rn ic mcm mcp mcr, ar cI (mA 23) 22 fWD, ar cI (mA 0) 300 fBY] → va_S A s.heap H locs → ∀ ls : Array Slot, lv_has ls 8 [(0, .ref aM), (1, .int (nI a1)), (2, .int (nI b1)), (3, .int (nI K)), (4, .int (nI (wO K))), (5, .int (nI (wL K))), (6, .int sm), (7, .int (nI i9))] → W p l e r_c_X8_wordAt s m (([.ref aM, .int (nI a1), .int (nI b1)] : List Value).toArray) below meth c H locs 0 0 Q (F0 m 57 ls []) := by
                  intro n_57
                  induction n_57 with
                  | zero => intro i9 sm hfu; exact absurd hfu (Nat.not_lt_zero _)
                  | succ n_57 ih_57 =>
                    intro i9 sm hfu_57 hi hsm H locs hP hD hS ls hl
                    refine lv_iload hx hb dX8_wordAt_57 (lv_at hl 7 rfl) ?_
                    refine lv_iload hx hb dX8_wordAt_59 (lv_at hl 5 rfl) ?_
                    refine lv_icmp_ge (tgt := 104) hx hb dX8_wordAt_61 (by decide) (fun c_61 => ?_) (fun c_61 => ?_)
                    · skip
                      have k_61 : (wL K) ≤ i9 := (nI_leI (a := (wL K)) (b := i9) (by omega) (by omega)).mp c_61
                      refine lv_iload hx hb dX8_wordAt_104 (lv_at hl 6 rfl) ?_
                      refine lv_if_eq (tgt := 111) hx hb dX8_wordAt_106 (by decide) (fun c_106 => ?_) (fun c_106 => ?_)
                      · skip
                        refine lv_iload hx hb dX8_wordAt_111 (lv_at hl 4 rfl) ?_
                        refine lv_iload hx hb dX8_wordAt_113 (lv_at hl 5 rfl) ?_
                        refine lv_iconst (v := 1) hx hb dX8_wordAt_115 (by decide) ?_
                        refine m_iaddN (a := (wL K)) (b := 1) hx hb dX8_wordAt_116 ?_
                        refine m_iaddN (a := (wO K)) (b := ((wL K) + 1)) hx hb dX8_wordAt_117 ?_
                        rw [wO_succ K hK5]
                        refine lv_istore (lv' := [(4, .int (nI (wO (K + 1)))), (0, .ref aM), (1, .int (nI a1)), (2, .int (nI b1)), (3, .int (nI K)), (5, .int (nI (wL K))), (6, .int sm), (7, .int (nI i9))]) hx hb dX8_wordAt_118 hl (by decide) rfl (fun ls hl => ?_)
                        refine lv_iinc (v := (nI (K + 1))) (lv' := [(3, .int (nI (K + 1))), (4, .int (nI (wO (K + 1)))), (0, .ref aM), (1, .int (nI a1)), (2, .int (nI b1)), (5, .int (nI (wL K))), (6, .int sm), (7, .int (nI i9))]) hx hb dX8_wordAt_120 hl (k := 4) rfl (nI_inc K 1 (by decide)) (by decide) rfl (fun ls hl => ?_)
                        refine lv_goto (tgt := 5) hx hb dX8_wordAt_123 (by decide) ?_
                        exact ih_5 (K + 1) (by omega) (by omega) (fun i hi => by rcases Nat.lt_succ_iff_lt_or_eq.mp hi with q | q; exact hno i q; subst q; exact (hsm.resolve_left (fun q => by rw [q.1] at c_106; exact absurd c_106 (by decide))).2) _ _ (hP) (hD) hS ls (lv_sub hl [2, 3, 4, 0, 1] rfl)
                      · skip
                        refine lv_iload_n hx hb dX8_wordAt_109 rfl (lv_at hl 3 rfl) ?_
                        exact ret (nI K) () _ _ _ _ dX8_wordAt_110 (by have hs1 := hsm.resolve_right (fun q => c_106 q.1); have hi9 : wL K ≤ i9 := (by first | exact k_61 | exact absurd c_66 c_106); exact wI_at hK5 hno ⟨hs1.2.1, fun j hj => hs1.2.2 j (Nat.lt_of_lt_of_le hj hi9)⟩) (hP) (hD) hS
                    · skip
                      have k_61 : ¬ (wL K) ≤ i9 := fun h9 => c_61 ((nI_leI (a := (wL K)) (b := i9) (by omega) (by omega)).mpr h9)
                      refine lv_iload hx hb dX8_wordAt_64 (lv_at hl 6 rfl) ?_
                      refine lv_if_eq (tgt := 104) hx hb dX8_wordAt_66 (by decide) (fun c_66 => ?_) (fun c_66 => ?_)
                      · skip
                        refine lv_iload hx hb dX8_wordAt_104 (lv_at hl 6 rfl) ?_
                        refine lv_if_eq (tgt := 111) hx hb dX8_wordAt_106 (by decide) (fun c_106 => ?_) (fun c_106 => ?_)
                        · skip
                          refine lv_iload hx hb dX8_wordAt_111 (lv_at hl 4 rfl) ?_
                          refine lv_iload hx hb dX8_wordAt_113 (lv_at hl 5 rfl) ?_
                          refine lv_iconst (v := 1) hx hb dX8_wordAt_115 (by decide) ?_
                          refine m_iaddN (a := (wL K)) (b := 1) hx hb dX8_wordAt_116 ?_
                          refine m_iaddN (a := (wO K)) (b := ((wL K) + 1)) hx hb dX8_wordAt_117 ?_
                          rw [wO_succ K hK5]
                          refine lv_istore (lv' := [(4, .int (nI (wO (K + 1)))), (0, .ref aM), (1, .int (nI a1)), (2, .int (nI b1)), (3, .int (nI K)), (5, .int (nI (wL K))), (6, .int sm), (7, .int (nI i9))]) hx hb dX8_wordAt_118 hl (by decide) rfl (fun ls hl => ?_)
                          refine lv_iinc (v := (nI (K + 1))) (lv' := [(3, .int (nI (K + 1))), (4, .int (nI (wO (K + 1)))), (0, .ref aM), (1, .int (nI a1)), (2, .int (nI b1)), (5, .int (nI (wL K))), (6, .int sm), (7, .int (nI i9))]) hx hb dX8_wordAt_120 hl (k := 4) rfl (nI_inc K 1 (by decide)) (by decide) rfl (fun ls hl => ?_)
                          refine lv_goto (tgt := 5) hx hb dX8_wordAt_123 (by decide) ?_
                          exact ih_5 (K + 1) (by omega) (by omega) (fun i hi => by rcases Nat.lt_succ_iff_lt_or_eq.mp hi with q | q; exact hno i q; subst q; exact (hsm.resolve_left (fun q => by rw [q.1] at c_106; exact absurd c_106 (by decide))).2) _ _ (hP) (hD) hS ls (lv_sub hl [2, 3, 4, 0, 1] rfl)
                        · skip
                          refine lv_iload_n hx hb dX8_wordAt_109 rfl (lv_at hl 3 rfl) ?_
                          exact ret (nI K) () _ _ _ _ dX8_wordAt_110 (by have hs1 := hsm.resolve_right (fun q => c_106 q.1); have hi9 : wL K ≤ i9 := (by first | exact k_61 | exact absurd c_66 c_106); exact wI_at hK5 hno ⟨hs1.2.1, fun j hj => hs1.2.2 j (Nat.lt_of_lt_of_le hj hi9)⟩) (hP) (hD) hS
                      · skip
                        have hs1 := hsm.resolve_right (fun q => c_66 q.1)
                        have hlen := hs1.2.1
                        have hall := hs1.2.2
                        clear hs1
                        have hix : wO K + i9 < 22 := (by clear hsm; omega)
                        refine lv_aload_n hx hb dX8_wordAt_69 rfl (lv_at hl 0 rfl) ?_
                        refine va_get (D := D) (ci := 8) (v := .ref (mA 23)) (C := RX8) (T := TX8) (N := 44) hx hb hts inX8 hown hK hP 0 rfl rfl 23 (by decide) fl57 (fun _ h9 => h9) rfl dX8_wordAt_70 ?_
                        refine lv_iload hx hb dX8_wordAt_73 (lv_at hl 4 rfl) ?_
                        refine lv_iload hx hb dX8_wordAt_75 (lv_at hl 7 rfl) ?_
                        refine m_iaddN (a := (wO K)) (b := i9) hx hb dX8_wordAt_77 ?_
                        refine m_iald (k := ((wO K) + i9)) hx hb hK hP 1 0 rfl rfl (hix) (by decide) dX8_wordAt_78 ?_
                        refine lv_aload_n hx hb dX8_wordAt_79 rfl (lv_at hl 0 rfl) ?_
                        refine va_get (D := D) (ci := 8) (v := .ref (mA 0)) (C := RX8) (T := TX8) (N := 44) hx hb hts inX8 hown hK hP 0 rfl rfl 0 (by decide) fl7 (fun _ h9 => h9) rfl dX8_wordAt_80 ?_
                        refine lv_iload_n hx hb dX8_wordAt_83 rfl (lv_at hl 1 rfl) ?_
                        refine lv_iload hx hb dX8_wordAt_84 (lv_at hl 7 rfl) ?_
                        refine m_iaddN (a := a1) (b := i9) hx hb dX8_wordAt_86 ?_
                        refine m_iald (k := (a1 + i9)) hx hb hK hP 2 0 rfl rfl (by clear hsm; omega) (by decide) dX8_wordAt_87 ?_
                        refine lv_icmp_ne (tgt := 95) hx hb dX8_wordAt_88 (by decide) (fun c_88 => ?_) (fun c_88 => ?_)
                        · skip
                          refine lv_iconst (v := 0) hx hb dX8_wordAt_95 (by decide) ?_
                          refine lv_istore (lv' := [(6, .int 0), (0, .ref aM), (1, .int (nI a1)), (2, .int (nI b1)), (3, .int (nI K)), (4, .int (nI (wO K))), (5, .int (nI (wL K))), (7, .int (nI i9))]) hx hb dX8_wordAt_96 hl (by decide) rfl (fun ls hl => ?_)
                          refine lv_iinc (v := (nI (i9 + 1))) (lv' := [(7, .int (nI (i9 + 1))), (6, .int 0), (0, .ref aM), (1, .int (nI a1)), (2, .int (nI b1)), (3, .int (nI K)), (4, .int (nI (wO K))), (5, .int (nI (wL K)))]) hx hb dX8_wordAt_98 hl (k := 7) rfl (nI_inc i9 1 (by decide)) (by decide) rfl (fun ls hl => ?_)
                          refine lv_goto (tgt := 57) hx hb dX8_wordAt_101 (by decide) ?_
                          exact ih_57 (i9 + 1) 0 (by omega) (by omega) (Or.inr ⟨rfl, fun q => c_88 (by rw [hwd _ hix, q.2 i9 (Nat.lt_of_not_le k_61)])⟩) _ _ (hP) (hD) hS ls (lv_sub hl [2, 3, 4, 5, 6, 7, 1, 0] rfl)
                        · skip
                          refine lv_iconst (v := 1) hx hb dX8_wordAt_91 (by decide) ?_
                          refine lv_goto (tgt := 96) hx hb dX8_wordAt_92 (by decide) ?_
                          refine lv_istore (lv' := [(6, .int 1), (0, .ref aM), (1, .int (nI a1)), (2, .int (nI b1)), (3, .int (nI K)), (4, .int (nI (wO K))), (5, .int (nI (wL K))), (7, .int (nI i9))]) hx hb dX8_wordAt_96 hl (by decide) rfl (fun ls hl => ?_)
                          refine lv_iinc (v := (nI (i9 + 1))) (lv' := [(7, .int (nI (i9 + 1))), (6, .int 1), (0, .ref aM), (1, .int (nI a1)), (2, .int (nI b1)), (3, .int (nI K)), (4, .int (nI (wO K))), (5, .int (nI (wL K)))]) hx hb dX8_wordAt_98 hl (k := 7) rfl (nI_inc i9 1 (by decide)) (by decide) rfl (fun ls hl => ?_)
                          refine lv_goto (tgt := 57) hx hb dX8_wordAt_101 (by decide) ?_
                          exact ih_57 (i9 + 1) 1 (by omega) (by omega) (Or.inl ⟨rfl, hlen, fun j hj => by rcases Nat.lt_succ_iff_lt_or_eq.mp hj with q | q; exact hall j q; subst q; rw [← hwd _ hix]; exact c_88.symm⟩) _ _ (hP) (hD) hS ls (lv_sub hl [2, 3, 4, 5, 6, 7, 1, 0] rfl)
                exact L_57 ((wL K - 0) + 1) 0 1 (Nat.lt_succ_self _) (by omega) (Or.inl ⟨rfl, k_44, fun j hj => absurd hj (Nat.not_lt_zero j)⟩) _ _ (hP) (hD) hS ls (lv_sub hl [2, 3, 4, 5, 6, 7, 1, 0] rfl)
            · skip
              refine lv_iinc (v := (nI (j + 1))) (lv' := [(5, .int (nI (j + 1))), (0, .ref aM), (1, .int (nI a1)), (2, .int (nI b1)), (3, .int (nI K)), (4, .int (nI (wO K)))]) hx hb dX8_wordAt_33 hl (k := 5) rfl (nI_inc j 1 (by decide)) (by decide) rfl (fun ls hl => ?_)
              refine lv_goto (tgt := 18) hx hb dX8_wordAt_36 (by decide) ?_
              have hne : ¬ j = wL K := fun e9 => c_30 (by rw [hwd _ hix0]; exact (wd_sp K hK5 j hj).mpr e9)
              exact ih_18 (j + 1) (by omega) (by omega) _ _ (hP) (hD) hS ls (lv_sub hl [1, 2, 3, 4, 5, 0] rfl)
        exact L_18 ((wL K - 0) + 1) 0 (Nat.lt_succ_self _) (by omega) _ _ (hP) (hD) hS ls (lv_sub hl [1, 2, 3, 4, 5, 0] rfl)
  exact L_5 ((4 - 0) + 1) 0 (Nat.lt_succ_self _) (by omega) (fun i hi => absurd hi (Nat.not_lt_zero i)) _ _ (hP) (hD) hS ls (lv_sub hl [2, 3, 4, 1, 0] rfl)
abbrev r_c_X8_take : Room := { frames := 1, cells := 0, slots := 0, locals := 27 }
set_option maxHeartbeats 4000000 in
set_option maxRecDepth 100000 in
theorem c_X8_take (l : Launch) (D : va_G) (cI cZ : ClassId) (aM : Nat) (mA : Nat → Nat) (nt : Nat) (th : Int32) (td : Int32) (nm : Nat) (np : Nat) (isd : Int32) (ln : Int32) (rf : Int32) (rp : Int32) (kd : Int32) (wh : Int32) (pl : Int32) (rd : Int32) (rn : Int32) (ic : Int32) (mcm : Int32) (mcp : Int32) (mcr : Int32) (fBY : Nat → Int32) (fWD : Nat → Int32) (n : Nat) (pp : Nat) (hn : n ≤ 300) (hp : pp ≤ n) (hwd : ∀ j, j < 22 → fWD j = wdF j) : MV l yX8_take wsX8_take r_c_X8_take D cI cZ [.ref aM] [mo aM mA (nI nt) th td (nI nm) (nI np) isd ln rf rp (nI n) (nI pp) kd wh pl rd rn ic mcm mcp mcr, ar cI (mA 0) 300 fBY, ar cI (mA 23) 22 fWD] (fun (u : Int32 × Nat × Nat × Int32) => u.1 = kdM fBY n pp ∧ u.2.1 = tSt fBY n pp ∧ u.2.2.1 = tNx fBY n pp ∧ mWh fBY n pp u.2.2.2) (fun (u : Int32 × Nat × Nat × Int32) => [mo aM mA (nI nt) th td (nI nm) (nI np) isd ln rf rp (nI n) (nI u.2.2.1) u.1 u.2.2.2 (nI u.2.1) rd rn ic mcm mcp mcr, ar cI (mA 0) 300 fBY, ar cI (mA 23) 22 fWD]) 0 0 := by
  refine MV.of (cc := cX8_take) (maxL := 1) (by decide) rfl (Nat.le_of_ble_eq_true rfl) ?_
  intro p e s m below meth c A Q hx hb hml hown hts hN hK hA ret hP hD hS ls hl hmn
  have hown : s.vm.findClass RX8 = some m.cls := hown
  have inX8 : ∀ w ∈ wsX80, w ∈ wsX8_take := by decide +kernel
  have fl7 := hts (.fieldLink RX8 7 "AdvanceBookModel" "tape" "[I") (by decide +kernel)
  have fl118 := hts (.fieldLink RX8 118 "AdvanceBookModel" "size" "I") (by decide +kernel)
  have fl121 := hts (.fieldLink RX8 121 "AdvanceBookModel" "next" "I") (by decide +kernel)
  have fl124 := hts (.fieldLink RX8 124 "AdvanceBookModel" "place" "I") (by decide +kernel)
  have fl127 := hts (.fieldLink RX8 127 "AdvanceBookModel" "kind" "I") (by decide +kernel)
  have fl137 := hts (.fieldLink RX8 137 "AdvanceBookModel" "which" "I") (by decide +kernel)
  have hP : va_P D vwCl [mo aM mA (nI nt) th td (nI nm) (nI np) isd ln rf rp (nI n) (nI pp) kd wh pl rd rn ic mcm mcp mcr, ar cI (mA 0) 300 fBY, ar cI (mA 23) 22 fWD] s.heap := hP
  have hD : va_D A [mo aM mA (nI nt) th td (nI nm) (nI np) isd ln rf rp (nI n) (nI pp) kd wh pl rd rn ic mcm mcp mcr, ar cI (mA 0) 300 fBY, ar cI (mA 23) 22 fWD] := hD
  have hl : lv_has ls 1 [(0, .ref aM)] := hl
  have L_0 : ∀ (n_0 : Nat) (k : Nat), (n - k < n_0) → (k ≤ n) → (runT fBY n 0 pp = runT fBY n 0 k) → ∀ (H : Heap) (locs : List Loc), va_P D vwCl [mo aM mA (nI nt) th td (nI nm) (nI np) isd ln rf rp (nI n) (nI k) kd wh pl rd rn ic mcm mcp mcr, ar cI (mA 0) 300 fBY, ar cI (mA 23) 22 fWD] H → va_D A [mo aM mA (nI nt) th td (nI nm) (nI np) isd ln rf rp (nI n) (nI k) kd wh pl rd rn ic mcm mcp mcr, ar cI (mA 0) 300 fBY, ar cI (mA 23) 22 fWD] → va_S A s.heap H locs → ∀ ls : Array Slot, lv_has ls 1 [(0, .ref aM)] → W p l e r_c_X8_take s m (([.ref aM] : List Value).toArray) below meth c H locs 0 0 Q (F0 m 0 ls []) := by
    intro n_0
    induction n_0 with
    | zero => intro k hfu; exact absurd hfu (Nat.not_lt_zero _)
    | succ n_0 ih_0 =>
      intro k hfu_0 hk hr H locs hP hD hS ls hl
      have J_52 : (tSt fBY n pp = k) → ∀ (H : Heap) (locs : List Loc), va_P D vwCl [mo aM mA (nI nt) th td (nI nm) (nI np) isd ln rf rp (nI n) (nI k) kd wh pl rd rn ic mcm mcp mcr, ar cI (mA 0) 300 fBY, ar cI (mA 23) 22 fWD] H → va_D A [mo aM mA (nI nt) th td (nI nm) (nI np) isd ln rf rp (nI n) (nI k) kd wh pl rd rn ic mcm mcp mcr, ar cI (mA 0) 300 fBY, ar cI (mA 23) 22 fWD] → va_S A s.heap H locs → ∀ ls : Array Slot, lv_has ls 1 [(0, .ref aM)] → W p l e r_c_X8_take s m (([.ref aM] : List Value).toArray) below meth c H locs 0 0 Q (F0 m 52 ls []) := by
        intro  hst H locs hP hD hS ls hl
        refine lv_aload_n hx hb dX8_take_52 rfl (lv_at hl 0 rfl) ?_
        refine lv_aload_n hx hb dX8_take_53 rfl (lv_at hl 0 rfl) ?_
        refine va_get (D := D) (ci := 8) (v := .int (nI k)) (C := RX8) (T := TX8) (N := 44) hx hb hts inX8 hown hK hP 0 rfl rfl 25 (by decide) fl121 (fun _ h9 => h9) rfl dX8_take_54 ?_
        refine va_put (D := D) (ci := 8) (v := .int (nI k)) (ty := .int) (C := RX8) (T := TX8) (N := 44) hx hb hts inX8 tyX8 tyX8_ok nmX8 hown hK hP hD hS 0 rfl rfl 28 (by decide) fl124 (fun _ h9 => h9) rfl (by decide +kernel) (rfl) (rfl) (Nat.le_of_ble_eq_true rfl) dX8_take_57 (fun H locs hP hD hS => ?_)
        have hP : va_P D vwCl [mo aM mA (nI nt) th td (nI nm) (nI np) isd ln rf rp (nI n) (nI k) kd wh (nI k) rd rn ic mcm mcp mcr, ar cI (mA 0) 300 fBY, ar cI (mA 23) 22 fWD] H := hP
        have hD : va_D A [mo aM mA (nI nt) th td (nI nm) (nI np) isd ln rf rp (nI n) (nI k) kd wh (nI k) rd rn ic mcm mcp mcr, ar cI (mA 0) 300 fBY, ar cI (mA 23) 22 fWD] := hD
        refine lv_aload_n hx hb dX8_take_60 rfl (lv_at hl 0 rfl) ?_
        refine va_get (D := D) (ci := 8) (v := .int (nI k)) (C := RX8) (T := TX8) (N := 44) hx hb hts inX8 hown hK hP 0 rfl rfl 25 (by decide) fl121 (fun _ h9 => h9) rfl dX8_take_61 ?_
        refine lv_aload_n hx hb dX8_take_64 rfl (lv_at hl 0 rfl) ?_
        refine va_get (D := D) (ci := 8) (v := .int (nI n)) (C := RX8) (T := TX8) (N := 44) hx hb hts inX8 hown hK hP 0 rfl rfl 24 (by decide) fl118 (fun _ h9 => h9) rfl dX8_take_65 ?_
        refine lv_icmp_ne (tgt := 79) hx hb dX8_take_68 (by decide) (fun c_68 => ?_) (fun c_68 => ?_)
        · skip
          have k_68 : ¬ k = n := fun h9 => c_68 ((nI_eq (a := k) (b := n) (by omega) (by omega)).mpr h9)
          have hin : k < n := (by omega)
          refine lv_aload_n hx hb dX8_take_79 rfl (lv_at hl 0 rfl) ?_
          refine lv_aload_n hx hb dX8_take_80 rfl (lv_at hl 0 rfl) ?_
          refine va_get (D := D) (ci := 8) (v := .int (nI k)) (C := RX8) (T := TX8) (N := 44) hx hb hts inX8 hown hK hP 0 rfl rfl 25 (by decide) fl121 (fun _ h9 => h9) rfl dX8_take_81 ?_
          refine m_cVi (As := [.int (nI k)]) (rest := []) (wr := [ar cI (mA 23) 22 fWD]) ⟨hx, hb, hml, hown, hts⟩ (c_X8_isSmall l D cI cZ aM mA nt th td nm np isd ln rf rp (nI k) kd wh (nI k) rd rn ic mcm mcp mcr fBY n k (by first | assumption | omega) (by first | assumption | omega)) (cwV 1 hts gX8_take_X8_isSmall rfl rfl rfl (by decide +kernel) ⟨Nat.le_of_ble_eq_true rfl, Nat.le_of_ble_eq_true rfl⟩) hN hK hP hD hS hA [0, 1] [2] rfl rfl (by decide) (by decide) (by decide) 0 (ci := 8) rfl rfl rfl rfl hl.1 rfl (Nat.le_of_ble_eq_true rfl) dX8_take_84 ⟨Nat.le_of_ble_eq_true rfl, Nat.le_of_ble_eq_true rfl⟩ (fun r_84 u_84 H locs hq_84 hP hD hS => ?_)
          replace hq_84 : r_84 = if k < n ∧ kindS (fBY k) = 1 then 1 else 0 := hq_84
          have hP : va_P D vwCl [ar cI (mA 23) 22 fWD, mo aM mA (nI nt) th td (nI nm) (nI np) isd ln rf rp (nI n) (nI k) kd wh (nI k) rd rn ic mcm mcp mcr, ar cI (mA 0) 300 fBY] H := hP
          have hD : va_D A [ar cI (mA 23) 22 fWD, mo aM mA (nI nt) th td (nI nm) (nI np) isd ln rf rp (nI n) (nI k) kd wh (nI k) rd rn ic mcm mcp mcr, ar cI (mA 0) 300 fBY] := hD
          refine lv_if_eq (tgt := 149) hx hb dX8_take_87 (by decide) (fun c_87 => ?_) (fun c_87 => ?_)
          · skip
            have h01 : ¬ kindS (fBY k) = 1 := fun y => by rw [if_pos ⟨hin, y⟩] at hq_84; rw [hq_84] at c_87; exact absurd c_87 (by decide)
            refine lv_aload_n hx hb dX8_take_149 rfl (lv_at hl 0 rfl) ?_
            refine lv_aload_n hx hb dX8_take_150 rfl (lv_at hl 0 rfl) ?_
            refine va_get (D := D) (ci := 8) (v := .int (nI k)) (C := RX8) (T := TX8) (N := 44) hx hb hts inX8 hown hK hP 1 rfl rfl 25 (by decide) fl121 (fun _ h9 => h9) rfl dX8_take_151 ?_
            refine m_cVi (As := [.int (nI k)]) (rest := []) (wr := [ar cI (mA 23) 22 fWD]) ⟨hx, hb, hml, hown, hts⟩ (c_X8_isDigit l D cI cZ aM mA nt th td nm np isd ln rf rp (nI k) kd wh (nI k) rd rn ic mcm mcp mcr fBY n k (by first | assumption | omega) (by first | assumption | omega)) (cwV 1 hts gX8_take_X8_isDigit rfl rfl rfl (by decide +kernel) ⟨Nat.le_of_ble_eq_true rfl, Nat.le_of_ble_eq_true rfl⟩) hN hK hP hD hS hA [1, 2] [0] rfl rfl (by decide) (by decide) (by decide) 0 (ci := 8) rfl rfl rfl rfl hl.1 rfl (Nat.le_of_ble_eq_true rfl) dX8_take_154 ⟨Nat.le_of_ble_eq_true rfl, Nat.le_of_ble_eq_true rfl⟩ (fun r_154 u_154 H locs hq_154 hP hD hS => ?_)
            replace hq_154 : r_154 = if k < n ∧ kindS (fBY k) = 2 then 1 else 0 := hq_154
            have hP : va_P D vwCl [ar cI (mA 23) 22 fWD, mo aM mA (nI nt) th td (nI nm) (nI np) isd ln rf rp (nI n) (nI k) kd wh (nI k) rd rn ic mcm mcp mcr, ar cI (mA 0) 300 fBY] H := hP
            have hD : va_D A [ar cI (mA 23) 22 fWD, mo aM mA (nI nt) th td (nI nm) (nI np) isd ln rf rp (nI n) (nI k) kd wh (nI k) rd rn ic mcm mcp mcr, ar cI (mA 0) 300 fBY] := hD
            refine lv_if_eq (tgt := 235) hx hb dX8_take_157 (by decide) (fun c_157 => ?_) (fun c_157 => ?_)
            · skip
              have h02 : ¬ kindS (fBY k) = 2 := fun y => by rw [if_pos ⟨hin, y⟩] at hq_154; rw [hq_154] at c_157; exact absurd c_157 (by decide)
              refine lv_aload_n hx hb dX8_take_235 rfl (lv_at hl 0 rfl) ?_
              refine lv_aload_n hx hb dX8_take_236 rfl (lv_at hl 0 rfl) ?_
              refine va_get (D := D) (ci := 8) (v := .ref (mA 0)) (C := RX8) (T := TX8) (N := 44) hx hb hts inX8 hown hK hP 1 rfl rfl 0 (by decide) fl7 (fun _ h9 => h9) rfl dX8_take_237 ?_
              refine lv_aload_n hx hb dX8_take_240 rfl (lv_at hl 0 rfl) ?_
              refine va_get (D := D) (ci := 8) (v := .int (nI k)) (C := RX8) (T := TX8) (N := 44) hx hb hts inX8 hown hK hP 1 rfl rfl 25 (by decide) fl121 (fun _ h9 => h9) rfl dX8_take_241 ?_
              refine m_iald (k := k) hx hb hK hP 2 0 rfl rfl (by omega) (by decide) dX8_take_244 ?_
              refine lv_bipush (v := 59) hx hb dX8_take_245 (by decide) ?_
              refine lv_icmp_ne (tgt := 254) hx hb dX8_take_247 (by decide) (fun c_247 => ?_) (fun c_247 => ?_)
              · skip
                refine lv_iconst (v := 4) hx hb dX8_take_254 (by decide) ?_
                refine va_put (D := D) (ci := 8) (v := .int 4) (ty := .int) (C := RX8) (T := TX8) (N := 44) hx hb hts inX8 tyX8 tyX8_ok nmX8 hown hK hP hD hS 1 rfl rfl 26 (by decide) fl127 (fun _ h9 => h9) rfl (by decide +kernel) (rfl) (rfl) (Nat.le_of_ble_eq_true rfl) dX8_take_255 (fun H locs hP hD hS => ?_)
                have hP : va_P D vwCl [ar cI (mA 23) 22 fWD, mo aM mA (nI nt) th td (nI nm) (nI np) isd ln rf rp (nI n) (nI k) 4 wh (nI k) rd rn ic mcm mcp mcr, ar cI (mA 0) 300 fBY] H := hP
                have hD : va_D A [ar cI (mA 23) 22 fWD, mo aM mA (nI nt) th td (nI nm) (nI np) isd ln rf rp (nI n) (nI k) 4 wh (nI k) rd rn ic mcm mcp mcr, ar cI (mA 0) 300 fBY] := hD
                refine lv_aload_n hx hb dX8_take_258 rfl (lv_at hl 0 rfl) ?_
                refine lv_dup hx hb dX8_take_259 rfl ?_
                refine va_get (D := D) (ci := 8) (v := .int (nI k)) (C := RX8) (T := TX8) (N := 44) hx hb hts inX8 hown hK hP 1 rfl rfl 25 (by decide) fl121 (fun _ h9 => h9) rfl dX8_take_260 ?_
                refine lv_iconst (v := 1) hx hb dX8_take_263 (by decide) ?_
                refine m_iaddN (a := k) (b := 1) hx hb dX8_take_264 ?_
                refine va_put (D := D) (ci := 8) (v := .int (nI (k + 1))) (ty := .int) (C := RX8) (T := TX8) (N := 44) hx hb hts inX8 tyX8 tyX8_ok nmX8 hown hK hP hD hS 1 rfl rfl 25 (by decide) fl121 (fun _ h9 => h9) rfl (by decide +kernel) (rfl) (rfl) (Nat.le_of_ble_eq_true rfl) dX8_take_265 (fun H locs hP hD hS => ?_)
                have hP : va_P D vwCl [ar cI (mA 23) 22 fWD, mo aM mA (nI nt) th td (nI nm) (nI np) isd ln rf rp (nI n) (nI (k + 1)) 4 wh (nI k) rd rn ic mcm mcp mcr, ar cI (mA 0) 300 fBY] H := hP
                have hD : va_D A [ar cI (mA 23) 22 fWD, mo aM mA (nI nt) th td (nI nm) (nI np) isd ln rf rp (nI n) (nI (k + 1)) 4 wh (nI k) rd rn ic mcm mcp mcr, ar cI (mA 0) 300 fBY] := hD
                exact ret (4, k, (k + 1), wh) _ _ _ _ dX8_take_268 (take_one hp hst hin h01 h02 (by first | exact Or.inl ⟨c_247, rfl⟩ | exact Or.inr ⟨c_247, rfl⟩)) (hP.sub [1, 2, 0] rfl) (hD.sub [1, 2, 0] (by decide) rfl) hS
              · skip
                refine lv_iconst (v := 3) hx hb dX8_take_250 (by decide) ?_
                refine lv_goto (tgt := 255) hx hb dX8_take_251 (by decide) ?_
                refine va_put (D := D) (ci := 8) (v := .int 3) (ty := .int) (C := RX8) (T := TX8) (N := 44) hx hb hts inX8 tyX8 tyX8_ok nmX8 hown hK hP hD hS 1 rfl rfl 26 (by decide) fl127 (fun _ h9 => h9) rfl (by decide +kernel) (rfl) (rfl) (Nat.le_of_ble_eq_true rfl) dX8_take_255 (fun H locs hP hD hS => ?_)
                have hP : va_P D vwCl [ar cI (mA 23) 22 fWD, mo aM mA (nI nt) th td (nI nm) (nI np) isd ln rf rp (nI n) (nI k) 3 wh (nI k) rd rn ic mcm mcp mcr, ar cI (mA 0) 300 fBY] H := hP
                have hD : va_D A [ar cI (mA 23) 22 fWD, mo aM mA (nI nt) th td (nI nm) (nI np) isd ln rf rp (nI n) (nI k) 3 wh (nI k) rd rn ic mcm mcp mcr, ar cI (mA 0) 300 fBY] := hD
                refine lv_aload_n hx hb dX8_take_258 rfl (lv_at hl 0 rfl) ?_
                refine lv_dup hx hb dX8_take_259 rfl ?_
                refine va_get (D := D) (ci := 8) (v := .int (nI k)) (C := RX8) (T := TX8) (N := 44) hx hb hts inX8 hown hK hP 1 rfl rfl 25 (by decide) fl121 (fun _ h9 => h9) rfl dX8_take_260 ?_
                refine lv_iconst (v := 1) hx hb dX8_take_263 (by decide) ?_
                refine m_iaddN (a := k) (b := 1) hx hb dX8_take_264 ?_
                refine va_put (D := D) (ci := 8) (v := .int (nI (k + 1))) (ty := .int) (C := RX8) (T := TX8) (N := 44) hx hb hts inX8 tyX8 tyX8_ok nmX8 hown hK hP hD hS 1 rfl rfl 25 (by decide) fl121 (fun _ h9 => h9) rfl (by decide +kernel) (rfl) (rfl) (Nat.le_of_ble_eq_true rfl) dX8_take_265 (fun H locs hP hD hS => ?_)
                have hP : va_P D vwCl [ar cI (mA 23) 22 fWD, mo aM mA (nI nt) th td (nI nm) (nI np) isd ln rf rp (nI n) (nI (k + 1)) 3 wh (nI k) rd rn ic mcm mcp mcr, ar cI (mA 0) 300 fBY] H := hP
                have hD : va_D A [ar cI (mA 23) 22 fWD, mo aM mA (nI nt) th td (nI nm) (nI np) isd ln rf rp (nI n) (nI (k + 1)) 3 wh (nI k) rd rn ic mcm mcp mcr, ar cI (mA 0) 300 fBY] := hD
                exact ret (3, k, (k + 1), wh) _ _ _ _ dX8_take_268 (take_one hp hst hin h01 h02 (by first | exact Or.inl ⟨c_247, rfl⟩ | exact Or.inr ⟨c_247, rfl⟩)) (hP.sub [1, 2, 0] rfl) (hD.sub [1, 2, 0] (by decide) rfl) hS
            · skip
              have h12 : kindS (fBY k) = 2 := (by by_cases z : k < n ∧ kindS (fBY k) = 2; exact z.2; rw [if_neg z] at hq_154; exact absurd hq_154 c_157)
              refine lv_aload_n hx hb dX8_take_160 rfl (lv_at hl 0 rfl) ?_
              refine lv_iconst (v := 2) hx hb dX8_take_161 (by decide) ?_
              refine va_put (D := D) (ci := 8) (v := .int 2) (ty := .int) (C := RX8) (T := TX8) (N := 44) hx hb hts inX8 tyX8 tyX8_ok nmX8 hown hK hP hD hS 1 rfl rfl 26 (by decide) fl127 (fun _ h9 => h9) rfl (by decide +kernel) (rfl) (rfl) (Nat.le_of_ble_eq_true rfl) dX8_take_162 (fun H locs hP hD hS => ?_)
              have hP : va_P D vwCl [ar cI (mA 23) 22 fWD, mo aM mA (nI nt) th td (nI nm) (nI np) isd ln rf rp (nI n) (nI k) 2 wh (nI k) rd rn ic mcm mcp mcr, ar cI (mA 0) 300 fBY] H := hP
              have hD : va_D A [ar cI (mA 23) 22 fWD, mo aM mA (nI nt) th td (nI nm) (nI np) isd ln rf rp (nI n) (nI k) 2 wh (nI k) rd rn ic mcm mcp mcr, ar cI (mA 0) 300 fBY] := hD
              refine lv_aload_n hx hb dX8_take_165 rfl (lv_at hl 0 rfl) ?_
              refine lv_iconst (v := 0) hx hb dX8_take_166 (by decide) ?_
              refine va_put (D := D) (ci := 8) (v := .int 0) (ty := .int) (C := RX8) (T := TX8) (N := 44) hx hb hts inX8 tyX8 tyX8_ok nmX8 hown hK hP hD hS 1 rfl rfl 27 (by decide) fl137 (fun _ h9 => h9) rfl (by decide +kernel) (rfl) (rfl) (Nat.le_of_ble_eq_true rfl) dX8_take_167 (fun H locs hP hD hS => ?_)
              have hP : va_P D vwCl [ar cI (mA 23) 22 fWD, mo aM mA (nI nt) th td (nI nm) (nI np) isd ln rf rp (nI n) (nI k) 2 0 (nI k) rd rn ic mcm mcp mcr, ar cI (mA 0) 300 fBY] H := hP
              have hD : va_D A [ar cI (mA 23) 22 fWD, mo aM mA (nI nt) th td (nI nm) (nI np) isd ln rf rp (nI n) (nI k) 2 0 (nI k) rd rn ic mcm mcp mcr, ar cI (mA 0) 300 fBY] := hD
              have L_170 : ∀ (n_170 : Nat) (kk : Nat) (v : Nat), (n - kk < n_170) → (kk ≤ n) → (k ≤ kk) → (runT fBY n 2 k = runT fBY n 2 kk) → (v = numG 9999 fBY k (kk - k)) → (v ≤ 99999) → ∀ (H : Heap) (locs : List Loc), va_P D vwCl [ar cI (mA 23) 22 fWD, mo aM mA (nI nt) th td (nI nm) (nI np) isd ln rf rp (nI n) (nI kk) 2 (nI v) (nI k) rd rn ic mcm mcp mcr, ar cI (mA 0) 300 fBY] H → va_D A [ar cI (mA 23) 22 fWD, mo aM mA (nI nt) th td (nI nm) (nI np) isd ln rf rp (nI n) (nI kk) 2 (nI v) (nI k) rd rn ic mcm mcp mcr, ar cI (mA 0) 300 fBY] → va_S A s.heap H locs → ∀ ls : Array Slot, lv_has ls 1 [(0, .ref aM)] → W p l e r_c_X8_take s m (([.ref aM] : List Value).toArray) below meth c H locs 0 0 Q (F0 m 170 ls []) := by
                intro n_170
                induction n_170 with
                | zero => intro kk v hfu; exact absurd hfu (Nat.not_lt_zero _)
                | succ n_170 ih_170 =>
                  intro kk v hfu_170 hk2 hk3 hr3 hv hv9 H locs hP hD hS ls hl
                  refine lv_aload_n hx hb dX8_take_170 rfl (lv_at hl 0 rfl) ?_
                  refine lv_aload_n hx hb dX8_take_171 rfl (lv_at hl 0 rfl) ?_
                  refine va_get (D := D) (ci := 8) (v := .int (nI kk)) (C := RX8) (T := TX8) (N := 44) hx hb hts inX8 hown hK hP 1 rfl rfl 25 (by decide) fl121 (fun _ h9 => h9) rfl dX8_take_172 ?_
                  refine m_cVi (As := [.int (nI kk)]) (rest := []) (wr := [ar cI (mA 23) 22 fWD]) ⟨hx, hb, hml, hown, hts⟩ (c_X8_isDigit l D cI cZ aM mA nt th td nm np isd ln rf rp (nI kk) 2 (nI v) (nI k) rd rn ic mcm mcp mcr fBY n kk (by first | assumption | omega) (by first | assumption | omega)) (cwV 1 hts gX8_take_X8_isDigit rfl rfl rfl (by decide +kernel) ⟨Nat.le_of_ble_eq_true rfl, Nat.le_of_ble_eq_true rfl⟩) hN hK hP hD hS hA [1, 2] [0] rfl rfl (by decide) (by decide) (by decide) 0 (ci := 8) rfl rfl rfl rfl hl.1 rfl (Nat.le_of_ble_eq_true rfl) dX8_take_175 ⟨Nat.le_of_ble_eq_true rfl, Nat.le_of_ble_eq_true rfl⟩ (fun r_175 u_175 H locs hq_175 hP hD hS => ?_)
                  replace hq_175 : r_175 = if kk < n ∧ kindS (fBY kk) = 2 then 1 else 0 := hq_175
                  have hP : va_P D vwCl [ar cI (mA 23) 22 fWD, mo aM mA (nI nt) th td (nI nm) (nI np) isd ln rf rp (nI n) (nI kk) 2 (nI v) (nI k) rd rn ic mcm mcp mcr, ar cI (mA 0) 300 fBY] H := hP
                  have hD : va_D A [ar cI (mA 23) 22 fWD, mo aM mA (nI nt) th td (nI nm) (nI np) isd ln rf rp (nI n) (nI kk) 2 (nI v) (nI k) rd rn ic mcm mcp mcr, ar cI (mA 0) 300 fBY] := hD
                  refine lv_if_eq (tgt := 268) hx hb dX8_take_178 (by decide) (fun c_178 => ?_) (fun c_178 => ?_)
                  · skip
                    exact ret (2, k, kk, (nI v)) _ _ _ _ dX8_take_268 (take_num hst hin h12 (by rw [hr3]; by_cases z : kk < n; exact runT_no (fun y => by rw [if_pos ⟨z, y⟩] at hq_175; rw [hq_175] at c_178; exact absurd c_178 (by decide)); exact runT_out (Nat.le_of_not_lt z)) hv) (hP.sub [1, 2, 0] rfl) (hD.sub [1, 2, 0] (by decide) rfl) hS
                  · skip
                    have hz : kk < n ∧ kindS (fBY kk) = 2 := (by by_cases z : kk < n ∧ kindS (fBY kk) = 2; exact z; rw [if_neg z] at hq_175; exact absurd hq_175 c_178)
                    refine lv_aload_n hx hb dX8_take_181 rfl (lv_at hl 0 rfl) ?_
                    refine lv_aload_n hx hb dX8_take_182 rfl (lv_at hl 0 rfl) ?_
                    refine va_get (D := D) (ci := 8) (v := .int (nI v)) (C := RX8) (T := TX8) (N := 44) hx hb hts inX8 hown hK hP 1 rfl rfl 27 (by decide) fl137 (fun _ h9 => h9) rfl dX8_take_183 ?_
                    refine lv_sipush (v := 9999) hx hb dX8_take_186 (by decide) ?_
                    refine lv_icmp_le (tgt := 199) hx hb dX8_take_189 (by decide) (fun c_189 => ?_) (fun c_189 => ?_)
                    · skip
                      have k_189 : v ≤ 9999 := (nI_leI (a := v) (b := 9999) (by omega) (by omega)).mp c_189
                      refine lv_bipush (v := 10) hx hb dX8_take_199 (by decide) ?_
                      refine lv_aload_n hx hb dX8_take_201 rfl (lv_at hl 0 rfl) ?_
                      refine va_get (D := D) (ci := 8) (v := .int (nI v)) (C := RX8) (T := TX8) (N := 44) hx hb hts inX8 hown hK hP 1 rfl rfl 27 (by decide) fl137 (fun _ h9 => h9) rfl dX8_take_202 ?_
                      refine m_imulN (a := 10) (b := v) hx hb dX8_take_205 ?_
                      refine lv_aload_n hx hb dX8_take_206 rfl (lv_at hl 0 rfl) ?_
                      refine va_get (D := D) (ci := 8) (v := .ref (mA 0)) (C := RX8) (T := TX8) (N := 44) hx hb hts inX8 hown hK hP 1 rfl rfl 0 (by decide) fl7 (fun _ h9 => h9) rfl dX8_take_207 ?_
                      refine lv_aload_n hx hb dX8_take_210 rfl (lv_at hl 0 rfl) ?_
                      refine va_get (D := D) (ci := 8) (v := .int (nI kk)) (C := RX8) (T := TX8) (N := 44) hx hb hts inX8 hown hK hP 1 rfl rfl 25 (by decide) fl121 (fun _ h9 => h9) rfl dX8_take_211 ?_
                      refine m_iald (k := kk) hx hb hK hP 2 0 rfl rfl (by omega) (by decide) dX8_take_214 ?_
                      refine lv_iadd hx hb dX8_take_215 ?_
                      refine lv_bipush (v := 48) hx hb dX8_take_216 (by decide) ?_
                      refine lv_isub hx hb dX8_take_218 ?_
                      have e219 : (nI (10 * v)) + (fBY kk) - 48 = nI (v * 10 + dig (fBY kk)) := (by rw [Nat.mul_comm 10 v]; exact num_step hz.2)
                      rw [e219]
                      refine va_put (D := D) (ci := 8) (v := .int (nI (v * 10 + dig (fBY kk)))) (ty := .int) (C := RX8) (T := TX8) (N := 44) hx hb hts inX8 tyX8 tyX8_ok nmX8 hown hK hP hD hS 1 rfl rfl 27 (by decide) fl137 (fun _ h9 => h9) rfl (by decide +kernel) (rfl) (rfl) (Nat.le_of_ble_eq_true rfl) dX8_take_219 (fun H locs hP hD hS => ?_)
                      have hP : va_P D vwCl [ar cI (mA 23) 22 fWD, mo aM mA (nI nt) th td (nI nm) (nI np) isd ln rf rp (nI n) (nI kk) 2 (nI (v * 10 + dig (fBY kk))) (nI k) rd rn ic mcm mcp mcr, ar cI (mA 0) 300 fBY] H := hP
                      have hD : va_D A [ar cI (mA 23) 22 fWD, mo aM mA (nI nt) th td (nI nm) (nI np) isd ln rf rp (nI n) (nI kk) 2 (nI (v * 10 + dig (fBY kk))) (nI k) rd rn ic mcm mcp mcr, ar cI (mA 0) 300 fBY] := hD
                      refine lv_aload_n hx hb dX8_take_222 rfl (lv_at hl 0 rfl) ?_
                      refine lv_dup hx hb dX8_take_223 rfl ?_
                      refine va_get (D := D) (ci := 8) (v := .int (nI kk)) (C := RX8) (T := TX8) (N := 44) hx hb hts inX8 hown hK hP 1 rfl rfl 25 (by decide) fl121 (fun _ h9 => h9) rfl dX8_take_224 ?_
                      refine lv_iconst (v := 1) hx hb dX8_take_227 (by decide) ?_
                      refine m_iaddN (a := kk) (b := 1) hx hb dX8_take_228 ?_
                      refine va_put (D := D) (ci := 8) (v := .int (nI (kk + 1))) (ty := .int) (C := RX8) (T := TX8) (N := 44) hx hb hts inX8 tyX8 tyX8_ok nmX8 hown hK hP hD hS 1 rfl rfl 25 (by decide) fl121 (fun _ h9 => h9) rfl (by decide +kernel) (rfl) (rfl) (Nat.le_of_ble_eq_true rfl) dX8_take_229 (fun H locs hP hD hS => ?_)
                      have hP : va_P D vwCl [ar cI (mA 23) 22 fWD, mo aM mA (nI nt) th td (nI nm) (nI np) isd ln rf rp (nI n) (nI (kk + 1)) 2 (nI (v * 10 + dig (fBY kk))) (nI k) rd rn ic mcm mcp mcr, ar cI (mA 0) 300 fBY] H := hP
                      have hD : va_D A [ar cI (mA 23) 22 fWD, mo aM mA (nI nt) th td (nI nm) (nI np) isd ln rf rp (nI n) (nI (kk + 1)) 2 (nI (v * 10 + dig (fBY kk))) (nI k) rd rn ic mcm mcp mcr, ar cI (mA 0) 300 fBY] := hD
                      refine lv_goto (tgt := 170) hx hb dX8_take_232 (by decide) ?_
                      have hs9 : kk + 1 - k = (kk - k) + 1 := (by omega)
                      have hs8 : k + (kk - k) = kk := (by omega)
                      have hd9 := dig_le hz.2
                      exact ih_170 (kk + 1) (v * 10 + dig (fBY kk)) (by omega) (by omega) (by omega) (hr3.trans (runT_in hz.1 hz.2)) (by rw [hs9, numG_up (by rw [← hv]; exact k_189), ← hv, hs8]) (by omega) _ _ (hP) (hD) hS ls (lv_sub hl [0] rfl)
                    · skip
                      have k_189 : ¬ v ≤ 9999 := fun h9 => c_189 ((nI_leI (a := v) (b := 9999) (by omega) (by omega)).mpr h9)
                      refine lv_aload_n hx hb dX8_take_192 rfl (lv_at hl 0 rfl) ?_
                      refine va_get (D := D) (ci := 8) (v := .int (nI v)) (C := RX8) (T := TX8) (N := 44) hx hb hts inX8 hown hK hP 1 rfl rfl 27 (by decide) fl137 (fun _ h9 => h9) rfl dX8_take_193 ?_
                      refine lv_goto (tgt := 219) hx hb dX8_take_196 (by decide) ?_
                      refine va_put (D := D) (ci := 8) (v := .int (nI v)) (ty := .int) (C := RX8) (T := TX8) (N := 44) hx hb hts inX8 tyX8 tyX8_ok nmX8 hown hK hP hD hS 1 rfl rfl 27 (by decide) fl137 (fun _ h9 => h9) rfl (by decide +kernel) (rfl) (rfl) (Nat.le_of_ble_eq_true rfl) dX8_take_219 (fun H locs hP hD hS => ?_)
                      have hP : va_P D vwCl [ar cI (mA 23) 22 fWD, mo aM mA (nI nt) th td (nI nm) (nI np) isd ln rf rp (nI n) (nI kk) 2 (nI v) (nI k) rd rn ic mcm mcp mcr, ar cI (mA 0) 300 fBY] H := hP
                      have hD : va_D A [ar cI (mA 23) 22 fWD, mo aM mA (nI nt) th td (nI nm) (nI np) isd ln rf rp (nI n) (nI kk) 2 (nI v) (nI k) rd rn ic mcm mcp mcr, ar cI (mA 0) 300 fBY] := hD
                      refine lv_aload_n hx hb dX8_take_222 rfl (lv_at hl 0 rfl) ?_
                      refine lv_dup hx hb dX8_take_223 rfl ?_
                      refine va_get (D := D) (ci := 8) (v := .int (nI kk)) (C := RX8) (T := TX8) (N := 44) hx hb hts inX8 hown hK hP 1 rfl rfl 25 (by decide) fl121 (fun _ h9 => h9) rfl dX8_take_224 ?_
                      refine lv_iconst (v := 1) hx hb dX8_take_227 (by decide) ?_
                      refine m_iaddN (a := kk) (b := 1) hx hb dX8_take_228 ?_
                      refine va_put (D := D) (ci := 8) (v := .int (nI (kk + 1))) (ty := .int) (C := RX8) (T := TX8) (N := 44) hx hb hts inX8 tyX8 tyX8_ok nmX8 hown hK hP hD hS 1 rfl rfl 25 (by decide) fl121 (fun _ h9 => h9) rfl (by decide +kernel) (rfl) (rfl) (Nat.le_of_ble_eq_true rfl) dX8_take_229 (fun H locs hP hD hS => ?_)
                      have hP : va_P D vwCl [ar cI (mA 23) 22 fWD, mo aM mA (nI nt) th td (nI nm) (nI np) isd ln rf rp (nI n) (nI (kk + 1)) 2 (nI v) (nI k) rd rn ic mcm mcp mcr, ar cI (mA 0) 300 fBY] H := hP
                      have hD : va_D A [ar cI (mA 23) 22 fWD, mo aM mA (nI nt) th td (nI nm) (nI np) isd ln rf rp (nI n) (nI (kk + 1)) 2 (nI v) (nI k) rd rn ic mcm mcp mcr, ar cI (mA 0) 300 fBY] := hD
                      refine lv_goto (tgt := 170) hx hb dX8_take_232 (by decide) ?_
                      have hs9 : kk + 1 - k = (kk - k) + 1 := (by omega)
                      exact ih_170 (kk + 1) v (by omega) (by omega) (by omega) (hr3.trans (runT_in hz.1 hz.2)) (by rw [hs9, numG_no (by rw [← hv]; exact Nat.lt_of_not_le k_189)]; exact hv) (by omega) _ _ (hP) (hD) hS ls (lv_sub hl [0] rfl)
              exact L_170 ((n - k) + 1) k 0 (Nat.lt_succ_self _) (by omega) (by omega) (rfl) (by rw [Nat.sub_self]; rfl) (by omega) _ _ (hP) (hD) hS ls (lv_sub hl [0] rfl)
          · skip
            have L_90 : ∀ (n_90 : Nat) (kk : Nat), (n - kk < n_90) → (kk ≤ n) → (runT fBY n 1 k = runT fBY n 1 kk) → ∀ (H : Heap) (locs : List Loc), va_P D vwCl [ar cI (mA 23) 22 fWD, mo aM mA (nI nt) th td (nI nm) (nI np) isd ln rf rp (nI n) (nI kk) kd wh (nI k) rd rn ic mcm mcp mcr, ar cI (mA 0) 300 fBY] H → va_D A [ar cI (mA 23) 22 fWD, mo aM mA (nI nt) th td (nI nm) (nI np) isd ln rf rp (nI n) (nI kk) kd wh (nI k) rd rn ic mcm mcp mcr, ar cI (mA 0) 300 fBY] → va_S A s.heap H locs → ∀ ls : Array Slot, lv_has ls 1 [(0, .ref aM)] → W p l e r_c_X8_take s m (([.ref aM] : List Value).toArray) below meth c H locs 0 0 Q (F0 m 90 ls []) := by
              intro n_90
              induction n_90 with
              | zero => intro kk hfu; exact absurd hfu (Nat.not_lt_zero _)
              | succ n_90 ih_90 =>
                intro kk hfu_90 hk2 hr2 H locs hP hD hS ls hl
                refine lv_aload_n hx hb dX8_take_90 rfl (lv_at hl 0 rfl) ?_
                refine lv_aload_n hx hb dX8_take_91 rfl (lv_at hl 0 rfl) ?_
                refine va_get (D := D) (ci := 8) (v := .int (nI kk)) (C := RX8) (T := TX8) (N := 44) hx hb hts inX8 hown hK hP 1 rfl rfl 25 (by decide) fl121 (fun _ h9 => h9) rfl dX8_take_92 ?_
                refine m_cVi (As := [.int (nI kk)]) (rest := []) (wr := [ar cI (mA 23) 22 fWD]) ⟨hx, hb, hml, hown, hts⟩ (c_X8_isSmall l D cI cZ aM mA nt th td nm np isd ln rf rp (nI kk) kd wh (nI k) rd rn ic mcm mcp mcr fBY n kk (by first | assumption | omega) (by first | assumption | omega)) (cwV 1 hts gX8_take_X8_isSmall rfl rfl rfl (by decide +kernel) ⟨Nat.le_of_ble_eq_true rfl, Nat.le_of_ble_eq_true rfl⟩) hN hK hP hD hS hA [1, 2] [0] rfl rfl (by decide) (by decide) (by decide) 0 (ci := 8) rfl rfl rfl rfl hl.1 rfl (Nat.le_of_ble_eq_true rfl) dX8_take_95 ⟨Nat.le_of_ble_eq_true rfl, Nat.le_of_ble_eq_true rfl⟩ (fun r_95 u_95 H locs hq_95 hP hD hS => ?_)
                replace hq_95 : r_95 = if kk < n ∧ kindS (fBY kk) = 1 then 1 else 0 := hq_95
                have hP : va_P D vwCl [ar cI (mA 23) 22 fWD, mo aM mA (nI nt) th td (nI nm) (nI np) isd ln rf rp (nI n) (nI kk) kd wh (nI k) rd rn ic mcm mcp mcr, ar cI (mA 0) 300 fBY] H := hP
                have hD : va_D A [ar cI (mA 23) 22 fWD, mo aM mA (nI nt) th td (nI nm) (nI np) isd ln rf rp (nI n) (nI kk) kd wh (nI k) rd rn ic mcm mcp mcr, ar cI (mA 0) 300 fBY] := hD
                refine lv_if_eq (tgt := 114) hx hb dX8_take_98 (by decide) (fun c_98 => ?_) (fun c_98 => ?_)
                · skip
                  have h11 : kindS (fBY k) = 1 := (by by_cases z : k < n ∧ kindS (fBY k) = 1; exact z.2; rw [if_neg z] at hq_84; exact absurd hq_84 c_87)
                  refine lv_aload_n hx hb dX8_take_114 rfl (lv_at hl 0 rfl) ?_
                  refine lv_aload_n hx hb dX8_take_115 rfl (lv_at hl 0 rfl) ?_
                  refine lv_aload_n hx hb dX8_take_116 rfl (lv_at hl 0 rfl) ?_
                  refine va_get (D := D) (ci := 8) (v := .int (nI k)) (C := RX8) (T := TX8) (N := 44) hx hb hts inX8 hown hK hP 1 rfl rfl 28 (by decide) fl124 (fun _ h9 => h9) rfl dX8_take_117 ?_
                  refine lv_aload_n hx hb dX8_take_120 rfl (lv_at hl 0 rfl) ?_
                  refine va_get (D := D) (ci := 8) (v := .int (nI kk)) (C := RX8) (T := TX8) (N := 44) hx hb hts inX8 hown hK hP 1 rfl rfl 25 (by decide) fl121 (fun _ h9 => h9) rfl dX8_take_121 ?_
                  refine m_cVi (As := [.int (nI k), .int (nI kk)]) (rest := [.ref aM]) (wr := []) ⟨hx, hb, hml, hown, hts⟩ (c_X8_wordAt l D cI cZ aM mA nt th td nm np isd ln rf rp (nI n) (nI kk) kd wh (nI k) rd rn ic mcm mcp mcr fWD fBY k kk (by have hg9 := runT_ge (t := fBY) (n := n) (k := 1) (q := k); have : runT fBY n 1 kk = kk := (by by_cases z : kk < n; exact runT_no (fun y => by rw [if_pos ⟨z, y⟩] at hq_95; rw [hq_95] at c_98; exact absurd c_98 (by decide)); exact runT_out (Nat.le_of_not_lt z)); omega) (by first | assumption | omega) (by first | assumption | omega)) (cwV 2 hts gX8_take_X8_wordAt rfl rfl rfl (by decide +kernel) ⟨Nat.le_of_ble_eq_true rfl, Nat.le_of_ble_eq_true rfl⟩) hN hK hP hD hS hA [1, 0, 2] [] rfl rfl (by decide) (by decide) (by decide) 0 (ci := 8) rfl rfl rfl rfl hl.1 rfl (Nat.le_of_ble_eq_true rfl) dX8_take_124 ⟨Nat.le_of_ble_eq_true rfl, Nat.le_of_ble_eq_true rfl⟩ (fun r_124 u_124 H locs hq_124 hP hD hS => ?_)
                  replace hq_124 : r_124 = wI fBY k kk := hq_124
                  have hP : va_P D vwCl [mo aM mA (nI nt) th td (nI nm) (nI np) isd ln rf rp (nI n) (nI kk) kd wh (nI k) rd rn ic mcm mcp mcr, ar cI (mA 23) 22 fWD, ar cI (mA 0) 300 fBY] H := hP
                  have hD : va_D A [mo aM mA (nI nt) th td (nI nm) (nI np) isd ln rf rp (nI n) (nI kk) kd wh (nI k) rd rn ic mcm mcp mcr, ar cI (mA 23) 22 fWD, ar cI (mA 0) 300 fBY] := hD
                  refine va_put (D := D) (ci := 8) (v := .int r_124) (ty := .int) (C := RX8) (T := TX8) (N := 44) hx hb hts inX8 tyX8 tyX8_ok nmX8 hown hK hP hD hS 0 rfl rfl 27 (by decide) fl137 (fun _ h9 => h9) rfl (by decide +kernel) (rfl) (rfl) (Nat.le_of_ble_eq_true rfl) dX8_take_127 (fun H locs hP hD hS => ?_)
                  have hP : va_P D vwCl [mo aM mA (nI nt) th td (nI nm) (nI np) isd ln rf rp (nI n) (nI kk) kd r_124 (nI k) rd rn ic mcm mcp mcr, ar cI (mA 23) 22 fWD, ar cI (mA 0) 300 fBY] H := hP
                  have hD : va_D A [mo aM mA (nI nt) th td (nI nm) (nI np) isd ln rf rp (nI n) (nI kk) kd r_124 (nI k) rd rn ic mcm mcp mcr, ar cI (mA 23) 22 fWD, ar cI (mA 0) 300 fBY] := hD
                  refine lv_aload_n hx hb dX8_take_130 rfl (lv_at hl 0 rfl) ?_
                  refine lv_aload_n hx hb dX8_take_131 rfl (lv_at hl 0 rfl) ?_
                  refine va_get (D := D) (ci := 8) (v := .int r_124) (C := RX8) (T := TX8) (N := 44) hx hb hts inX8 hown hK hP 0 rfl rfl 27 (by decide) fl137 (fun _ h9 => h9) rfl dX8_take_132 ?_
                  refine lv_if_ge (tgt := 142) hx hb dX8_take_135 (by decide) (fun c_135 => ?_) (fun c_135 => ?_)
                  · skip
                    refine lv_iconst (v := 1) hx hb dX8_take_142 (by decide) ?_
                    refine va_put (D := D) (ci := 8) (v := .int 1) (ty := .int) (C := RX8) (T := TX8) (N := 44) hx hb hts inX8 tyX8 tyX8_ok nmX8 hown hK hP hD hS 0 rfl rfl 26 (by decide) fl127 (fun _ h9 => h9) rfl (by decide +kernel) (rfl) (rfl) (Nat.le_of_ble_eq_true rfl) dX8_take_143 (fun H locs hP hD hS => ?_)
                    have hP : va_P D vwCl [mo aM mA (nI nt) th td (nI nm) (nI np) isd ln rf rp (nI n) (nI kk) 1 r_124 (nI k) rd rn ic mcm mcp mcr, ar cI (mA 23) 22 fWD, ar cI (mA 0) 300 fBY] H := hP
                    have hD : va_D A [mo aM mA (nI nt) th td (nI nm) (nI np) isd ln rf rp (nI n) (nI kk) 1 r_124 (nI k) rd rn ic mcm mcp mcr, ar cI (mA 23) 22 fWD, ar cI (mA 0) 300 fBY] := hD
                    refine lv_goto (tgt := 268) hx hb dX8_take_146 (by decide) ?_
                    exact ret (1, k, kk, r_124) _ _ _ _ dX8_take_268 (take_word hst hin h11 (by rw [hr2]; by_cases z : kk < n; exact runT_no (fun y => by rw [if_pos ⟨z, y⟩] at hq_95; rw [hq_95] at c_98; exact absurd c_98 (by decide)); exact runT_out (Nat.le_of_not_lt z)) hq_124 (by first | exact Or.inl ⟨Int32.not_le.mp c_135, rfl⟩ | exact Or.inr ⟨Int32.not_lt.mpr c_135, rfl⟩)) (hP.sub [0, 2, 1] rfl) (hD.sub [0, 2, 1] (by decide) rfl) hS
                  · skip
                    refine lv_iconst (v := 4) hx hb dX8_take_138 (by decide) ?_
                    refine lv_goto (tgt := 143) hx hb dX8_take_139 (by decide) ?_
                    refine va_put (D := D) (ci := 8) (v := .int 4) (ty := .int) (C := RX8) (T := TX8) (N := 44) hx hb hts inX8 tyX8 tyX8_ok nmX8 hown hK hP hD hS 0 rfl rfl 26 (by decide) fl127 (fun _ h9 => h9) rfl (by decide +kernel) (rfl) (rfl) (Nat.le_of_ble_eq_true rfl) dX8_take_143 (fun H locs hP hD hS => ?_)
                    have hP : va_P D vwCl [mo aM mA (nI nt) th td (nI nm) (nI np) isd ln rf rp (nI n) (nI kk) 4 r_124 (nI k) rd rn ic mcm mcp mcr, ar cI (mA 23) 22 fWD, ar cI (mA 0) 300 fBY] H := hP
                    have hD : va_D A [mo aM mA (nI nt) th td (nI nm) (nI np) isd ln rf rp (nI n) (nI kk) 4 r_124 (nI k) rd rn ic mcm mcp mcr, ar cI (mA 23) 22 fWD, ar cI (mA 0) 300 fBY] := hD
                    refine lv_goto (tgt := 268) hx hb dX8_take_146 (by decide) ?_
                    exact ret (4, k, kk, r_124) _ _ _ _ dX8_take_268 (take_word hst hin h11 (by rw [hr2]; by_cases z : kk < n; exact runT_no (fun y => by rw [if_pos ⟨z, y⟩] at hq_95; rw [hq_95] at c_98; exact absurd c_98 (by decide)); exact runT_out (Nat.le_of_not_lt z)) hq_124 (by first | exact Or.inl ⟨Int32.not_le.mp c_135, rfl⟩ | exact Or.inr ⟨Int32.not_lt.mpr c_135, rfl⟩)) (hP.sub [0, 2, 1] rfl) (hD.sub [0, 2, 1] (by decide) rfl) hS
                · skip
                  refine lv_aload_n hx hb dX8_take_101 rfl (lv_at hl 0 rfl) ?_
                  refine lv_dup hx hb dX8_take_102 rfl ?_
                  refine va_get (D := D) (ci := 8) (v := .int (nI kk)) (C := RX8) (T := TX8) (N := 44) hx hb hts inX8 hown hK hP 1 rfl rfl 25 (by decide) fl121 (fun _ h9 => h9) rfl dX8_take_103 ?_
                  refine lv_iconst (v := 1) hx hb dX8_take_106 (by decide) ?_
                  refine m_iaddN (a := kk) (b := 1) hx hb dX8_take_107 ?_
                  refine va_put (D := D) (ci := 8) (v := .int (nI (kk + 1))) (ty := .int) (C := RX8) (T := TX8) (N := 44) hx hb hts inX8 tyX8 tyX8_ok nmX8 hown hK hP hD hS 1 rfl rfl 25 (by decide) fl121 (fun _ h9 => h9) rfl (by decide +kernel) (rfl) (rfl) (Nat.le_of_ble_eq_true rfl) dX8_take_108 (fun H locs hP hD hS => ?_)
                  have hP : va_P D vwCl [ar cI (mA 23) 22 fWD, mo aM mA (nI nt) th td (nI nm) (nI np) isd ln rf rp (nI n) (nI (kk + 1)) kd wh (nI k) rd rn ic mcm mcp mcr, ar cI (mA 0) 300 fBY] H := hP
                  have hD : va_D A [ar cI (mA 23) 22 fWD, mo aM mA (nI nt) th td (nI nm) (nI np) isd ln rf rp (nI n) (nI (kk + 1)) kd wh (nI k) rd rn ic mcm mcp mcr, ar cI (mA 0) 300 fBY] := hD
                  refine lv_goto (tgt := 90) hx hb dX8_take_111 (by decide) ?_
                  have hz : kk < n ∧ kindS (fBY kk) = 1 := (by by_cases z : kk < n ∧ kindS (fBY kk) = 1; exact z; rw [if_neg z] at hq_95; exact absurd hq_95 c_98)
                  exact ih_90 (kk + 1) (by omega) (by omega) (hr2.trans (runT_in hz.1 hz.2)) _ _ (hP) (hD) hS ls (lv_sub hl [0] rfl)
            exact L_90 ((n - k) + 1) k (Nat.lt_succ_self _) (by omega) (rfl) _ _ (hP) (hD) hS ls (lv_sub hl [0] rfl)
        · skip
          have k_68 : k = n := (nI_eq (a := k) (b := n) (by omega) (by omega)).mp c_68
          refine lv_aload_n hx hb dX8_take_71 rfl (lv_at hl 0 rfl) ?_
          refine lv_iconst (v := 0) hx hb dX8_take_72 (by decide) ?_
          refine va_put (D := D) (ci := 8) (v := .int 0) (ty := .int) (C := RX8) (T := TX8) (N := 44) hx hb hts inX8 tyX8 tyX8_ok nmX8 hown hK hP hD hS 0 rfl rfl 26 (by decide) fl127 (fun _ h9 => h9) rfl (by decide +kernel) (rfl) (rfl) (Nat.le_of_ble_eq_true rfl) dX8_take_73 (fun H locs hP hD hS => ?_)
          have hP : va_P D vwCl [mo aM mA (nI nt) th td (nI nm) (nI np) isd ln rf rp (nI n) (nI k) 0 wh (nI k) rd rn ic mcm mcp mcr, ar cI (mA 0) 300 fBY, ar cI (mA 23) 22 fWD] H := hP
          have hD : va_D A [mo aM mA (nI nt) th td (nI nm) (nI np) isd ln rf rp (nI n) (nI k) 0 wh (nI k) rd rn ic mcm mcp mcr, ar cI (mA 0) 300 fBY, ar cI (mA 23) 22 fWD] := hD
          refine lv_goto (tgt := 268) hx hb dX8_take_76 (by decide) ?_
          exact ret (0, k, k, wh) _ _ _ _ dX8_take_268 (take_end hst k_68) (hP) (hD) hS
      refine lv_aload_n hx hb dX8_take_0 rfl (lv_at hl 0 rfl) ?_
      refine va_get (D := D) (ci := 8) (v := .int (nI k)) (C := RX8) (T := TX8) (N := 44) hx hb hts inX8 hown hK hP 0 rfl rfl 25 (by decide) fl121 (fun _ h9 => h9) rfl dX8_take_1 ?_
      refine lv_aload_n hx hb dX8_take_4 rfl (lv_at hl 0 rfl) ?_
      refine va_get (D := D) (ci := 8) (v := .int (nI n)) (C := RX8) (T := TX8) (N := 44) hx hb hts inX8 hown hK hP 0 rfl rfl 24 (by decide) fl118 (fun _ h9 => h9) rfl dX8_take_5 ?_
      refine lv_icmp_ge (tgt := 52) hx hb dX8_take_8 (by decide) (fun c_8 => ?_) (fun c_8 => ?_)
      · skip
        have k_8 : n ≤ k := (nI_leI (a := n) (b := k) (by omega) (by omega)).mp c_8
        exact J_52  (by first | exact hr.trans (runT_out k_8) | exact hr.trans (runT_no (fun q => (kind_0.mp q).elim c_22 c_36))) _ _ (hP) (hD) hS ls (lv_sub hl [0] rfl)
      · skip
        have k_8 : ¬ n ≤ k := fun h9 => c_8 ((nI_leI (a := n) (b := k) (by omega) (by omega)).mpr h9)
        refine lv_aload_n hx hb dX8_take_11 rfl (lv_at hl 0 rfl) ?_
        refine va_get (D := D) (ci := 8) (v := .ref (mA 0)) (C := RX8) (T := TX8) (N := 44) hx hb hts inX8 hown hK hP 0 rfl rfl 0 (by decide) fl7 (fun _ h9 => h9) rfl dX8_take_12 ?_
        refine lv_aload_n hx hb dX8_take_15 rfl (lv_at hl 0 rfl) ?_
        refine va_get (D := D) (ci := 8) (v := .int (nI k)) (C := RX8) (T := TX8) (N := 44) hx hb hts inX8 hown hK hP 0 rfl rfl 25 (by decide) fl121 (fun _ h9 => h9) rfl dX8_take_16 ?_
        refine m_iald (k := k) hx hb hK hP 1 0 rfl rfl (by omega) (by decide) dX8_take_19 ?_
        refine lv_bipush (v := 10) hx hb dX8_take_20 (by decide) ?_
        refine lv_icmp_eq (tgt := 39) hx hb dX8_take_22 (by decide) (fun c_22 => ?_) (fun c_22 => ?_)
        · skip
          refine lv_aload_n hx hb dX8_take_39 rfl (lv_at hl 0 rfl) ?_
          refine lv_dup hx hb dX8_take_40 rfl ?_
          refine va_get (D := D) (ci := 8) (v := .int (nI k)) (C := RX8) (T := TX8) (N := 44) hx hb hts inX8 hown hK hP 0 rfl rfl 25 (by decide) fl121 (fun _ h9 => h9) rfl dX8_take_41 ?_
          refine lv_iconst (v := 1) hx hb dX8_take_44 (by decide) ?_
          refine m_iaddN (a := k) (b := 1) hx hb dX8_take_45 ?_
          refine va_put (D := D) (ci := 8) (v := .int (nI (k + 1))) (ty := .int) (C := RX8) (T := TX8) (N := 44) hx hb hts inX8 tyX8 tyX8_ok nmX8 hown hK hP hD hS 0 rfl rfl 25 (by decide) fl121 (fun _ h9 => h9) rfl (by decide +kernel) (rfl) (rfl) (Nat.le_of_ble_eq_true rfl) dX8_take_46 (fun H locs hP hD hS => ?_)
          have hP : va_P D vwCl [mo aM mA (nI nt) th td (nI nm) (nI np) isd ln rf rp (nI n) (nI (k + 1)) kd wh pl rd rn ic mcm mcp mcr, ar cI (mA 0) 300 fBY, ar cI (mA 23) 22 fWD] H := hP
          have hD : va_D A [mo aM mA (nI nt) th td (nI nm) (nI np) isd ln rf rp (nI n) (nI (k + 1)) kd wh pl rd rn ic mcm mcp mcr, ar cI (mA 0) 300 fBY, ar cI (mA 23) 22 fWD] := hD
          refine lv_goto (tgt := 0) hx hb dX8_take_49 (by decide) ?_
          exact ih_0 (k + 1) (by omega) (by omega) (hr.trans (runT_in (Nat.lt_of_not_le k_8) (kind_0.mpr (by first | exact Or.inl c_22 | exact Or.inr c_36)))) _ _ (hP) (hD) hS ls (lv_sub hl [0] rfl)
        · skip
          refine lv_aload_n hx hb dX8_take_25 rfl (lv_at hl 0 rfl) ?_
          refine va_get (D := D) (ci := 8) (v := .ref (mA 0)) (C := RX8) (T := TX8) (N := 44) hx hb hts inX8 hown hK hP 0 rfl rfl 0 (by decide) fl7 (fun _ h9 => h9) rfl dX8_take_26 ?_
          refine lv_aload_n hx hb dX8_take_29 rfl (lv_at hl 0 rfl) ?_
          refine va_get (D := D) (ci := 8) (v := .int (nI k)) (C := RX8) (T := TX8) (N := 44) hx hb hts inX8 hown hK hP 0 rfl rfl 25 (by decide) fl121 (fun _ h9 => h9) rfl dX8_take_30 ?_
          refine m_iald (k := k) hx hb hK hP 1 0 rfl rfl (by omega) (by decide) dX8_take_33 ?_
          refine lv_bipush (v := 32) hx hb dX8_take_34 (by decide) ?_
          refine lv_icmp_ne (tgt := 52) hx hb dX8_take_36 (by decide) (fun c_36 => ?_) (fun c_36 => ?_)
          · skip
            exact J_52  (by first | exact hr.trans (runT_out k_8) | exact hr.trans (runT_no (fun q => (kind_0.mp q).elim c_22 c_36))) _ _ (hP) (hD) hS ls (lv_sub hl [0] rfl)
          · skip
            refine lv_aload_n hx hb dX8_take_39 rfl (lv_at hl 0 rfl) ?_
            refine lv_dup hx hb dX8_take_40 rfl ?_
            refine va_get (D := D) (ci := 8) (v := .int (nI k)) (C := RX8) (T := TX8) (N := 44) hx hb hts inX8 hown hK hP 0 rfl rfl 25 (by decide) fl121 (fun _ h9 => h9) rfl dX8_take_41 ?_
            refine lv_iconst (v := 1) hx hb dX8_take_44 (by decide) ?_
            refine m_iaddN (a := k) (b := 1) hx hb dX8_take_45 ?_
            refine va_put (D := D) (ci := 8) (v := .int (nI (k + 1))) (ty := .int) (C := RX8) (T := TX8) (N := 44) hx hb hts inX8 tyX8 tyX8_ok nmX8 hown hK hP hD hS 0 rfl rfl 25 (by decide) fl121 (fun _ h9 => h9) rfl (by decide +kernel) (rfl) (rfl) (Nat.le_of_ble_eq_true rfl) dX8_take_46 (fun H locs hP hD hS => ?_)
            have hP : va_P D vwCl [mo aM mA (nI nt) th td (nI nm) (nI np) isd ln rf rp (nI n) (nI (k + 1)) kd wh pl rd rn ic mcm mcp mcr, ar cI (mA 0) 300 fBY, ar cI (mA 23) 22 fWD] H := hP
            have hD : va_D A [mo aM mA (nI nt) th td (nI nm) (nI np) isd ln rf rp (nI n) (nI (k + 1)) kd wh pl rd rn ic mcm mcp mcr, ar cI (mA 0) 300 fBY, ar cI (mA 23) 22 fWD] := hD
            refine lv_goto (tgt := 0) hx hb dX8_take_49 (by decide) ?_
            exact ih_0 (k + 1) (by omega) (by omega) (hr.trans (runT_in (Nat.lt_of_not_le k_8) (kind_0.mpr (by first | exact Or.inl c_22 | exact Or.inr c_36)))) _ _ (hP) (hD) hS ls (lv_sub hl [0] rfl)
  exact L_0 ((n - pp) + 1) pp (Nat.lt_succ_self _) (by omega) (rfl) _ _ (hP) (hD) hS ls (lv_sub hl [0] rfl)
abbrev r_c_X8_number : Room := { frames := 2, cells := 0, slots := 0, locals := 47 }
set_option maxHeartbeats 4000000 in
set_option maxRecDepth 100000 in
theorem c_X8_number (l : Launch) (D : va_G) (cI cZ : ClassId) (aM : Nat) (mA : Nat → Nat) (nt : Nat) (th : Int32) (td : Int32) (nm : Nat) (np : Nat) (isd : Int32) (ln : Int32) (rf : Int32) (rp : Int32) (wh : Int32) (rd : Int32) (rn : Int32) (ic : Int32) (mcm : Int32) (mcp : Int32) (mcr : Int32) (fBY : Nat → Int32) (fWD : Nat → Int32) (n : Nat) (pp : Nat) (mx : Nat) (hn : n ≤ 300) (hp : pp ≤ n) (hwd : ∀ j, j < 22 → fWD j = wdF j) (hw : mWh fBY n pp wh) (hmx : mx ≤ 999) : MI l yX8_number wsX8_number r_c_X8_number D cI cZ [.ref aM, .int (nI mx)] [mo aM mA (nI nt) th td (nI nm) (nI np) isd ln rf rp (nI n) (nI (tNx fBY n pp)) (kdM fBY n pp) wh (nI (tSt fBY n pp)) rd rn ic mcm mcp mcr, ar cI (mA 0) 300 fBY, ar cI (mA 23) 22 fWD] (fun (r : Int32) (u : Int32 × Int32 × Int32 × Int32 × Int32 × Int32 × Int32) => (r = 1 ∧ okN fBY n pp mx ∧ u.2.2.2.2.1 = nI (numT fBY n pp) ∧ u.1 = kdM fBY n (tNx fBY n pp) ∧ u.2.2.1 = nI (tSt fBY n (tNx fBY n pp)) ∧ u.2.2.2.1 = nI (tNx fBY n (tNx fBY n pp)) ∧ mWh fBY n (tNx fBY n pp) u.2.1 ∧ u.2.2.2.2.2.1 = rf ∧ u.2.2.2.2.2.2 = rp) ∨ (r = 0 ∧ ¬ okN fBY n pp mx ∧ (u.2.2.2.2.2.1, u.2.2.2.2.2.2) = nuB fBY n pp mx (0, -1))) (fun (u : Int32 × Int32 × Int32 × Int32 × Int32 × Int32 × Int32) => [mo aM mA (nI nt) th td (nI nm) (nI np) isd ln u.2.2.2.2.2.1 u.2.2.2.2.2.2 (nI n) u.2.2.2.1 u.1 u.2.1 u.2.2.1 u.2.2.2.2.1 rn ic mcm mcp mcr, ar cI (mA 0) 300 fBY, ar cI (mA 23) 22 fWD]) 0 0 := by
  refine MI.ofZ (cc := cX8_number) (maxL := 2) (by decide) rfl (Nat.le_of_ble_eq_true rfl) ?_
  intro p e s m below meth c A Q hx hb hml hown hts hN hK hA ret hP hD hS ls hl
  have hown : s.vm.findClass RX8 = some m.cls := hown
  have inX8 : ∀ w ∈ wsX80, w ∈ wsX8_number := by decide +kernel
  have fl124 := hts (.fieldLink RX8 124 "AdvanceBookModel" "place" "I") (by decide +kernel)
  have fl127 := hts (.fieldLink RX8 127 "AdvanceBookModel" "kind" "I") (by decide +kernel)
  have fl137 := hts (.fieldLink RX8 137 "AdvanceBookModel" "which" "I") (by decide +kernel)
  have fl147 := hts (.fieldLink RX8 147 "AdvanceBookModel" "read" "I") (by decide +kernel)
  have hP : va_P D vwCl [mo aM mA (nI nt) th td (nI nm) (nI np) isd ln rf rp (nI n) (nI (tNx fBY n pp)) (kdM fBY n pp) wh (nI (tSt fBY n pp)) rd rn ic mcm mcp mcr, ar cI (mA 0) 300 fBY, ar cI (mA 23) 22 fWD] s.heap := hP
  have hD : va_D A [mo aM mA (nI nt) th td (nI nm) (nI np) isd ln rf rp (nI n) (nI (tNx fBY n pp)) (kdM fBY n pp) wh (nI (tSt fBY n pp)) rd rn ic mcm mcp mcr, ar cI (mA 0) 300 fBY, ar cI (mA 23) 22 fWD] := hD
  have hl : lv_has ls 2 [(0, .ref aM), (1, .int (nI mx))] := hl
  refine lv_aload_n hx hb dX8_number_0 rfl (lv_at hl 0 rfl) ?_
  refine va_get (D := D) (ci := 8) (v := .int (kdM fBY n pp)) (C := RX8) (T := TX8) (N := 44) hx hb hts inX8 hown hK hP 0 rfl rfl 26 (by decide) fl127 (fun _ h9 => h9) rfl dX8_number_1 ?_
  refine lv_iconst (v := 2) hx hb dX8_number_4 (by decide) ?_
  refine lv_icmp_eq (tgt := 18) hx hb dX8_number_5 (by decide) (fun c_5 => ?_) (fun c_5 => ?_)
  · skip
    have hk2 := kdM_2 c_5
    have ew := hw.2 hk2
    subst ew
    have hmb := numM_le hk2
    refine lv_aload_n hx hb dX8_number_18 rfl (lv_at hl 0 rfl) ?_
    refine va_get (D := D) (ci := 8) (v := .int (nI (numM fBY n pp))) (C := RX8) (T := TX8) (N := 44) hx hb hts inX8 hown hK hP 0 rfl rfl 27 (by decide) fl137 (fun _ h9 => h9) rfl dX8_number_19 ?_
    refine lv_iload_n hx hb dX8_number_22 rfl (lv_at hl 1 rfl) ?_
    refine lv_icmp_le (tgt := 36) hx hb dX8_number_23 (by decide) (fun c_23 => ?_) (fun c_23 => ?_)
    · skip
      have k_23 : (numM fBY n pp) ≤ mx := (nI_leI (a := (numM fBY n pp)) (b := mx) (by omega) (by omega)).mp c_23
      refine lv_aload_n hx hb dX8_number_36 rfl (lv_at hl 0 rfl) ?_
      refine lv_aload_n hx hb dX8_number_37 rfl (lv_at hl 0 rfl) ?_
      refine va_get (D := D) (ci := 8) (v := .int (nI (numM fBY n pp))) (C := RX8) (T := TX8) (N := 44) hx hb hts inX8 hown hK hP 0 rfl rfl 27 (by decide) fl137 (fun _ h9 => h9) rfl dX8_number_38 ?_
      refine va_put (D := D) (ci := 8) (v := .int (nI (numM fBY n pp))) (ty := .int) (C := RX8) (T := TX8) (N := 44) hx hb hts inX8 tyX8 tyX8_ok nmX8 hown hK hP hD hS 0 rfl rfl 29 (by decide) fl147 (fun _ h9 => h9) rfl (by decide +kernel) (rfl) (rfl) (Nat.le_of_ble_eq_true rfl) dX8_number_41 (fun H locs hP hD hS => ?_)
      have hP : va_P D vwCl [mo aM mA (nI nt) th td (nI nm) (nI np) isd ln rf rp (nI n) (nI (tNx fBY n pp)) (kdM fBY n pp) (nI (numM fBY n pp)) (nI (tSt fBY n pp)) (nI (numM fBY n pp)) rn ic mcm mcp mcr, ar cI (mA 0) 300 fBY, ar cI (mA 23) 22 fWD] H := hP
      have hD : va_D A [mo aM mA (nI nt) th td (nI nm) (nI np) isd ln rf rp (nI n) (nI (tNx fBY n pp)) (kdM fBY n pp) (nI (numM fBY n pp)) (nI (tSt fBY n pp)) (nI (numM fBY n pp)) rn ic mcm mcp mcr, ar cI (mA 0) 300 fBY, ar cI (mA 23) 22 fWD] := hD
      refine lv_aload_n hx hb dX8_number_44 rfl (lv_at hl 0 rfl) ?_
      refine m_cVv (As := []) (rest := []) (wr := []) ⟨hx, hb, hml, hown, hts⟩ (c_X8_take l D cI cZ aM mA nt th td nm np isd ln rf rp (kdM fBY n pp) (nI (numM fBY n pp)) (nI (tSt fBY n pp)) (nI (numM fBY n pp)) rn ic mcm mcp mcr fBY fWD n (tNx fBY n pp) (by first | assumption | omega) (tNx_le (t := fBY) (by assumption)) (by first | assumption | omega)) (cwV 0 hts gX8_number_X8_take rfl rfl rfl (by decide +kernel) ⟨Nat.le_of_ble_eq_true rfl, Nat.le_of_ble_eq_true rfl⟩) hN hK hP hD hS hA [0, 1, 2] [] rfl rfl (by decide) (by decide) (by decide) 0 (ci := 8) rfl rfl rfl rfl hl.1 rfl (Nat.le_of_ble_eq_true rfl) dX8_number_45 ⟨Nat.le_of_ble_eq_true rfl, Nat.le_of_ble_eq_true rfl⟩ (fun u_45 H locs hq_45 hP hD hS => ?_)
      obtain ⟨k2_45, s2_45, n2_45, w2_45⟩ := u_45
      replace hq_45 : k2_45 = kdM fBY n (tNx fBY n pp) ∧ s2_45 = tSt fBY n (tNx fBY n pp) ∧ n2_45 = tNx fBY n (tNx fBY n pp) ∧ mWh fBY n (tNx fBY n pp) w2_45 := hq_45
      have hP : va_P D vwCl [mo aM mA (nI nt) th td (nI nm) (nI np) isd ln rf rp (nI n) (nI n2_45) k2_45 w2_45 (nI s2_45) (nI (numM fBY n pp)) rn ic mcm mcp mcr, ar cI (mA 0) 300 fBY, ar cI (mA 23) 22 fWD] H := hP
      have hD : va_D A [mo aM mA (nI nt) th td (nI nm) (nI np) isd ln rf rp (nI n) (nI n2_45) k2_45 w2_45 (nI s2_45) (nI (numM fBY n pp)) rn ic mcm mcp mcr, ar cI (mA 0) 300 fBY, ar cI (mA 23) 22 fWD] := hD
      obtain ⟨rfl, rfl, rfl, hw_45⟩ := hq_45
      refine lv_iconst (v := 1) hx hb dX8_number_48 (by decide) ?_
      exact ret 1 ((kdM fBY n (tNx fBY n pp)), w2_45, (nI (tSt fBY n (tNx fBY n pp))), (nI (tNx fBY n (tNx fBY n pp))), (nI (numM fBY n pp)), rf, rp) _ _ _ _ dX8_number_49 (Or.inr rfl) (Or.inl ⟨rfl, ⟨hk2, (numM_cap hmx).mp k_23⟩, by rw [numM_eq hmx k_23], rfl, rfl, rfl, hw_45, rfl, rfl⟩) (hP) (hD) hS
    · skip
      have k_23 : ¬ (numM fBY n pp) ≤ mx := fun h9 => c_23 ((nI_leI (a := (numM fBY n pp)) (b := mx) (by omega) (by omega)).mpr h9)
      refine lv_aload_n hx hb dX8_number_26 rfl (lv_at hl 0 rfl) ?_
      refine lv_iconst (v := 2) hx hb dX8_number_27 (by decide) ?_
      refine lv_aload_n hx hb dX8_number_28 rfl (lv_at hl 0 rfl) ?_
      refine va_get (D := D) (ci := 8) (v := .int (nI (tSt fBY n pp))) (C := RX8) (T := TX8) (N := 44) hx hb hts inX8 hown hK hP 0 rfl rfl 28 (by decide) fl124 (fun _ h9 => h9) rfl dX8_number_29 ?_
      refine m_cVi (As := [.int 2, .int (nI (tSt fBY n pp))]) (rest := []) (wr := [ar cI (mA 0) 300 fBY, ar cI (mA 23) 22 fWD]) ⟨hx, hb, hml, hown, hts⟩ (c_X8_wrong l D cI cZ aM mA nt th td nm np isd ln rf rp (nI n) (nI (tNx fBY n pp)) (kdM fBY n pp) (nI (numM fBY n pp)) (nI (tSt fBY n pp)) rd rn ic mcm mcp mcr 2 (nI (tSt fBY n pp)) ) (cwV 2 hts gX8_number_X8_wrong rfl rfl rfl (by decide +kernel) ⟨Nat.le_of_ble_eq_true rfl, Nat.le_of_ble_eq_true rfl⟩) hN hK hP hD hS hA [0] [1, 2] rfl rfl (by decide) (by decide) (by decide) 0 (ci := 8) rfl rfl rfl rfl hl.1 rfl (Nat.le_of_ble_eq_true rfl) dX8_number_32 ⟨Nat.le_of_ble_eq_true rfl, Nat.le_of_ble_eq_true rfl⟩ (fun r_32 u_32 H locs hq_32 hP hD hS => ?_)
      replace hq_32 : r_32 = 0 := hq_32
      have hP : va_P D vwCl [ar cI (mA 0) 300 fBY, ar cI (mA 23) 22 fWD, mo aM mA (nI nt) th td (nI nm) (nI np) isd ln 2 (nI (tSt fBY n pp)) (nI n) (nI (tNx fBY n pp)) (kdM fBY n pp) (nI (numM fBY n pp)) (nI (tSt fBY n pp)) rd rn ic mcm mcp mcr] H := hP
      have hD : va_D A [ar cI (mA 0) 300 fBY, ar cI (mA 23) 22 fWD, mo aM mA (nI nt) th td (nI nm) (nI np) isd ln 2 (nI (tSt fBY n pp)) (nI n) (nI (tNx fBY n pp)) (kdM fBY n pp) (nI (numM fBY n pp)) (nI (tSt fBY n pp)) rd rn ic mcm mcp mcr] := hD
      exact ret r_32 ((kdM fBY n pp), (nI (numM fBY n pp)), (nI (tSt fBY n pp)), (nI (tNx fBY n pp)), rd, 2, (nI (tSt fBY n pp))) _ _ _ _ dX8_number_35 (Or.inl hq_32) (by subst hq_32; refine Or.inr ⟨rfl, fun q => k_23 ((numM_cap hmx).mpr q.2), ?_⟩; unfold nuB blF; rw [if_pos hk2, if_neg (fun q => k_23 ((numM_cap hmx).mpr q)), if_pos rfl]) (hP.sub [2, 0, 1] rfl) (hD.sub [2, 0, 1] (by decide) rfl) hS
  · skip
    refine lv_aload_n hx hb dX8_number_8 rfl (lv_at hl 0 rfl) ?_
    refine lv_iconst (v := 1) hx hb dX8_number_9 (by decide) ?_
    refine lv_aload_n hx hb dX8_number_10 rfl (lv_at hl 0 rfl) ?_
    refine va_get (D := D) (ci := 8) (v := .int (nI (tSt fBY n pp))) (C := RX8) (T := TX8) (N := 44) hx hb hts inX8 hown hK hP 0 rfl rfl 28 (by decide) fl124 (fun _ h9 => h9) rfl dX8_number_11 ?_
    refine m_cVi (As := [.int 1, .int (nI (tSt fBY n pp))]) (rest := []) (wr := [ar cI (mA 0) 300 fBY, ar cI (mA 23) 22 fWD]) ⟨hx, hb, hml, hown, hts⟩ (c_X8_wrong l D cI cZ aM mA nt th td nm np isd ln rf rp (nI n) (nI (tNx fBY n pp)) (kdM fBY n pp) wh (nI (tSt fBY n pp)) rd rn ic mcm mcp mcr 1 (nI (tSt fBY n pp)) ) (cwV 2 hts gX8_number_X8_wrong rfl rfl rfl (by decide +kernel) ⟨Nat.le_of_ble_eq_true rfl, Nat.le_of_ble_eq_true rfl⟩) hN hK hP hD hS hA [0] [1, 2] rfl rfl (by decide) (by decide) (by decide) 0 (ci := 8) rfl rfl rfl rfl hl.1 rfl (Nat.le_of_ble_eq_true rfl) dX8_number_14 ⟨Nat.le_of_ble_eq_true rfl, Nat.le_of_ble_eq_true rfl⟩ (fun r_14 u_14 H locs hq_14 hP hD hS => ?_)
    replace hq_14 : r_14 = 0 := hq_14
    have hP : va_P D vwCl [ar cI (mA 0) 300 fBY, ar cI (mA 23) 22 fWD, mo aM mA (nI nt) th td (nI nm) (nI np) isd ln 1 (nI (tSt fBY n pp)) (nI n) (nI (tNx fBY n pp)) (kdM fBY n pp) wh (nI (tSt fBY n pp)) rd rn ic mcm mcp mcr] H := hP
    have hD : va_D A [ar cI (mA 0) 300 fBY, ar cI (mA 23) 22 fWD, mo aM mA (nI nt) th td (nI nm) (nI np) isd ln 1 (nI (tSt fBY n pp)) (nI n) (nI (tNx fBY n pp)) (kdM fBY n pp) wh (nI (tSt fBY n pp)) rd rn ic mcm mcp mcr] := hD
    exact ret r_14 ((kdM fBY n pp), wh, (nI (tSt fBY n pp)), (nI (tNx fBY n pp)), rd, 1, (nI (tSt fBY n pp))) _ _ _ _ dX8_number_17 (Or.inl hq_14) (by subst hq_14; refine Or.inr ⟨rfl, fun q => c_5 (kdM_2' q.1), ?_⟩; unfold nuB blF; rw [if_neg (fun q => c_5 (kdM_2' q)), if_pos rfl]) (hP.sub [2, 0, 1] rfl) (hD.sub [2, 0, 1] (by decide) rfl) hS
abbrev r_c_X8_line : Room := { frames := 3, cells := 0, slots := 0, locals := 68 }
set_option maxHeartbeats 4000000 in
set_option maxRecDepth 100000 in
theorem c_X8_line (l : Launch) (D : va_G) (cI cZ : ClassId) (aM : Nat) (mA : Nat → Nat) (nt : Nat) (th : Int32) (td : Int32) (nm : Nat) (np : Nat) (isd : Int32) (ln : Int32) (rf : Int32) (rp : Int32) (wh : Int32) (rd : Int32) (rn : Int32) (ic : Int32) (mcm : Int32) (mcp : Int32) (mcr : Int32) (fBY : Nat → Int32) (fWD : Nat → Int32) (fRU : Nat → Int32) (n : Nat) (pp : Nat) (hn : n ≤ 300) (hp : pp ≤ n) (hwd : ∀ j, j < 22 → fWD j = wdF j) (hw : mWh fBY n pp wh) (hru : rulO (shR fRU)) : MI l yX8_line wsX8_line r_c_X8_line D cI cZ [.ref aM] [mo aM mA (nI nt) th td (nI nm) (nI np) isd ln rf rp (nI n) (nI (tNx fBY n pp)) (kdM fBY n pp) wh (nI (tSt fBY n pp)) rd rn ic mcm mcp mcr, ar cI (mA 0) 300 fBY, ar cI (mA 23) 22 fWD, ar cI (mA 19) 20 fRU] (fun (r : Int32) (u : Int32 × Int32 × Int32 × Int32 × Int32 × Int32 × Int32 × (Nat → Int32)) => linM fBY n fRU u.2.2.2.2.2.2.2 r u.2.2.2.2.2.1 u.2.2.2.2.2.2.1 rf rp u.1 u.2.1 u.2.2.1 u.2.2.2.1 (lineF fBY n pp (shR fRU))) (fun (u : Int32 × Int32 × Int32 × Int32 × Int32 × Int32 × Int32 × (Nat → Int32)) => [mo aM mA (nI nt) th td (nI nm) (nI np) isd ln u.2.2.2.2.2.1 u.2.2.2.2.2.2.1 (nI n) u.2.2.2.1 u.1 u.2.1 u.2.2.1 u.2.2.2.2.1 rn ic mcm mcp mcr, ar cI (mA 0) 300 fBY, ar cI (mA 23) 22 fWD, ar cI (mA 19) 20 u.2.2.2.2.2.2.2]) 0 0 := by
  refine MI.ofZ (cc := cX8_line) (maxL := 4) (by decide) rfl (Nat.le_of_ble_eq_true rfl) ?_
  intro p e s m below meth c A Q hx hb hml hown hts hN hK hA ret hP hD hS ls hl
  have hown : s.vm.findClass RX8 = some m.cls := hown
  have inX8 : ∀ w ∈ wsX80, w ∈ wsX8_line := by decide +kernel
  have fl47 := hts (.fieldLink RX8 47 "AdvanceBookModel" "rule" "[I") (by decide +kernel)
  have fl124 := hts (.fieldLink RX8 124 "AdvanceBookModel" "place" "I") (by decide +kernel)
  have fl127 := hts (.fieldLink RX8 127 "AdvanceBookModel" "kind" "I") (by decide +kernel)
  have fl137 := hts (.fieldLink RX8 137 "AdvanceBookModel" "which" "I") (by decide +kernel)
  have fl147 := hts (.fieldLink RX8 147 "AdvanceBookModel" "read" "I") (by decide +kernel)
  have hP : va_P D vwCl [mo aM mA (nI nt) th td (nI nm) (nI np) isd ln rf rp (nI n) (nI (tNx fBY n pp)) (kdM fBY n pp) wh (nI (tSt fBY n pp)) rd rn ic mcm mcp mcr, ar cI (mA 0) 300 fBY, ar cI (mA 23) 22 fWD, ar cI (mA 19) 20 fRU] s.heap := hP
  have hD : va_D A [mo aM mA (nI nt) th td (nI nm) (nI np) isd ln rf rp (nI n) (nI (tNx fBY n pp)) (kdM fBY n pp) wh (nI (tSt fBY n pp)) rd rn ic mcm mcp mcr, ar cI (mA 0) 300 fBY, ar cI (mA 23) 22 fWD, ar cI (mA 19) 20 fRU] := hD
  have hl : lv_has ls 4 [(0, .ref aM)] := hl
  refine lv_aload_n hx hb dX8_line_0 rfl (lv_at hl 0 rfl) ?_
  refine va_get (D := D) (ci := 8) (v := .int (kdM fBY n pp)) (C := RX8) (T := TX8) (N := 44) hx hb hts inX8 hown hK hP 0 rfl rfl 26 (by decide) fl127 (fun _ h9 => h9) rfl dX8_line_1 ?_
  refine lv_iconst (v := 1) hx hb dX8_line_4 (by decide) ?_
  refine lv_icmp_eq (tgt := 18) hx hb dX8_line_5 (by decide) (fun c_5 => ?_) (fun c_5 => ?_)
  · skip
    have hkw := kdM_1 c_5
    have ew : wh = nI (wN fBY n pp) := (by rw [hw.1 hkw.1]; unfold wI; rw [if_neg (show ¬ wNo fBY (tSt fBY n pp) (tNx fBY n pp) = 4 from hkw.2)]; rfl)
    subst ew
    have hw4 : wN fBY n pp ≤ 4 := wNo_le
    have hw5 : wN fBY n pp < 4 := (by have := hkw.2; omega)
    refine lv_aload_n hx hb dX8_line_18 rfl (lv_at hl 0 rfl) ?_
    refine va_get (D := D) (ci := 8) (v := .int (nI (wN fBY n pp))) (C := RX8) (T := TX8) (N := 44) hx hb hts inX8 hown hK hP 0 rfl rfl 27 (by decide) fl137 (fun _ h9 => h9) rfl dX8_line_19 ?_
    refine lv_istore_n (lv' := [(1, .int (nI (wN fBY n pp))), (0, .ref aM)]) hx hb dX8_line_22 rfl hl (by decide) rfl (fun ls hl => ?_)
    refine lv_aload_n hx hb dX8_line_23 rfl (lv_at hl 1 rfl) ?_
    refine va_get (D := D) (ci := 8) (v := .int (nI (tSt fBY n pp))) (C := RX8) (T := TX8) (N := 44) hx hb hts inX8 hown hK hP 0 rfl rfl 28 (by decide) fl124 (fun _ h9 => h9) rfl dX8_line_24 ?_
    refine lv_istore_n (lv' := [(2, .int (nI (tSt fBY n pp))), (1, .int (nI (wN fBY n pp))), (0, .ref aM)]) hx hb dX8_line_27 rfl hl (by decide) rfl (fun ls hl => ?_)
    refine lv_iload_n hx hb dX8_line_28 rfl (lv_at hl 1 rfl) ?_
    refine lv_iconst (v := 1) hx hb dX8_line_29 (by decide) ?_
    refine lv_icmp_le (tgt := 83) hx hb dX8_line_30 (by decide) (fun c_30 => ?_) (fun c_30 => ?_)
    · skip
      have k_30 : (wN fBY n pp) ≤ 1 := (nI_leI (a := (wN fBY n pp)) (b := 1) (by omega) (by omega)).mp c_30
      refine lv_aload_n hx hb dX8_line_83 rfl (lv_at hl 2 rfl) ?_
      refine m_cVv (As := []) (rest := []) (wr := [ar cI (mA 19) 20 fRU]) ⟨hx, hb, hml, hown, hts⟩ (c_X8_take l D cI cZ aM mA nt th td nm np isd ln rf rp (kdM fBY n pp) (nI (wN fBY n pp)) (nI (tSt fBY n pp)) rd rn ic mcm mcp mcr fBY fWD n (tNx fBY n pp) (by first | assumption | omega) (tNx_le (t := fBY) (by assumption)) (by first | assumption | omega)) (cwV 0 hts gX8_line_X8_take rfl rfl rfl (by decide +kernel) ⟨Nat.le_of_ble_eq_true rfl, Nat.le_of_ble_eq_true rfl⟩) hN hK hP hD hS hA [0, 1, 2] [3] rfl rfl (by decide) (by decide) (by decide) 0 (ci := 8) rfl rfl rfl rfl hl.1 rfl (Nat.le_of_ble_eq_true rfl) dX8_line_84 ⟨Nat.le_of_ble_eq_true rfl, Nat.le_of_ble_eq_true rfl⟩ (fun u_84 H locs hq_84 hP hD hS => ?_)
      obtain ⟨k2_84, s2_84, n2_84, w2_84⟩ := u_84
      replace hq_84 : k2_84 = kdM fBY n (tNx fBY n pp) ∧ s2_84 = tSt fBY n (tNx fBY n pp) ∧ n2_84 = tNx fBY n (tNx fBY n pp) ∧ mWh fBY n (tNx fBY n pp) w2_84 := hq_84
      have hP : va_P D vwCl [ar cI (mA 19) 20 fRU, mo aM mA (nI nt) th td (nI nm) (nI np) isd ln rf rp (nI n) (nI n2_84) k2_84 w2_84 (nI s2_84) rd rn ic mcm mcp mcr, ar cI (mA 0) 300 fBY, ar cI (mA 23) 22 fWD] H := hP
      have hD : va_D A [ar cI (mA 19) 20 fRU, mo aM mA (nI nt) th td (nI nm) (nI np) isd ln rf rp (nI n) (nI n2_84) k2_84 w2_84 (nI s2_84) rd rn ic mcm mcp mcr, ar cI (mA 0) 300 fBY, ar cI (mA 23) 22 fWD] := hD
      obtain ⟨rfl, rfl, rfl, hw_84⟩ := hq_84
      refine lv_aload_n hx hb dX8_line_87 rfl (lv_at hl 2 rfl) ?_
      refine va_get (D := D) (ci := 8) (v := .int (nI (tSt fBY n (tNx fBY n pp)))) (C := RX8) (T := TX8) (N := 44) hx hb hts inX8 hown hK hP 1 rfl rfl 28 (by decide) fl124 (fun _ h9 => h9) rfl dX8_line_88 ?_
      refine lv_istore_n (lv' := [(2, .int (nI (tSt fBY n (tNx fBY n pp)))), (1, .int (nI (wN fBY n pp))), (0, .ref aM)]) hx hb dX8_line_91 rfl hl (by decide) rfl (fun ls hl => ?_)
      refine lv_aload_n hx hb dX8_line_92 rfl (lv_at hl 2 rfl) ?_
      refine va_get (D := D) (ci := 8) (v := .int (kdM fBY n (tNx fBY n pp))) (C := RX8) (T := TX8) (N := 44) hx hb hts inX8 hown hK hP 1 rfl rfl 26 (by decide) fl127 (fun _ h9 => h9) rfl dX8_line_93 ?_
      refine lv_iconst (v := 2) hx hb dX8_line_96 (by decide) ?_
      refine lv_icmp_ne (tgt := 134) hx hb dX8_line_97 (by decide) (fun c_97 => ?_) (fun c_97 => ?_)
      · skip
        have hn3 : ¬ (okN fBY n (tNx fBY n pp) 3 ∧ ¬ shR fRU (4 * wN fBY n pp + numT fBY n (tNx fBY n pp)) = -1) := (by first | exact fun q => c_97 (kdM_2' q.1.1) | exact fun q => Nat.not_le_of_lt k_105 ((numM_cap le3_999).mpr q.1.2) | exact fun q => q.2 (hsh.trans (hng.mp c_124)))
        refine lv_aload_n hx hb dX8_line_134 rfl (lv_at hl 2 rfl) ?_
        refine lv_iconst (v := 3) hx hb dX8_line_135 (by decide) ?_
        refine m_cVi (As := [.int 3]) (rest := []) (wr := [ar cI (mA 19) 20 fRU]) ⟨hx, hb, hml, hown, hts⟩ (c_X8_number l D cI cZ aM mA nt th td nm np isd ln rf rp w2_84 rd rn ic mcm mcp mcr fBY fWD n (tNx fBY n pp) 3 (by first | assumption | omega) (tNx_le (t := fBY) (by first | exact hp | exact tNx_le (t := fBY) hp)) (by first | assumption | omega) (hw_84) (by decide)) (cwV 1 hts gX8_line_X8_number rfl rfl rfl (by decide +kernel) ⟨Nat.le_of_ble_eq_true rfl, Nat.le_of_ble_eq_true rfl⟩) hN hK hP hD hS hA [1, 2, 3] [0] rfl rfl (by decide) (by decide) (by decide) 0 (ci := 8) rfl rfl rfl rfl hl.1 rfl (Nat.le_of_ble_eq_true rfl) dX8_line_136 ⟨Nat.le_of_ble_eq_true rfl, Nat.le_of_ble_eq_true rfl⟩ (fun r_136 u_136 H locs hq_136 hP hD hS => ?_)
        obtain ⟨k2_136, w2_136, s2_136, n2_136, x2_136, f2_136, p2_136⟩ := u_136
        replace hq_136 : (r_136 = 1 ∧ okN fBY n (tNx fBY n pp) 3 ∧ x2_136 = nI (numT fBY n (tNx fBY n pp)) ∧ k2_136 = kdM fBY n (tNx fBY n (tNx fBY n pp)) ∧ s2_136 = nI (tSt fBY n (tNx fBY n (tNx fBY n pp))) ∧ n2_136 = nI (tNx fBY n (tNx fBY n (tNx fBY n pp))) ∧ mWh fBY n (tNx fBY n (tNx fBY n pp)) w2_136 ∧ f2_136 = rf ∧ p2_136 = rp) ∨ (r_136 = 0 ∧ ¬ okN fBY n (tNx fBY n pp) 3 ∧ (f2_136, p2_136) = nuB fBY n (tNx fBY n pp) 3 (0, -1)) := hq_136
        have hP : va_P D vwCl [ar cI (mA 19) 20 fRU, mo aM mA (nI nt) th td (nI nm) (nI np) isd ln f2_136 p2_136 (nI n) n2_136 k2_136 w2_136 s2_136 x2_136 rn ic mcm mcp mcr, ar cI (mA 0) 300 fBY, ar cI (mA 23) 22 fWD] H := hP
        have hD : va_D A [ar cI (mA 19) 20 fRU, mo aM mA (nI nt) th td (nI nm) (nI np) isd ln f2_136 p2_136 (nI n) n2_136 k2_136 w2_136 s2_136 x2_136 rn ic mcm mcp mcr, ar cI (mA 0) 300 fBY, ar cI (mA 23) 22 fWD] := hD
        refine lv_if_ne (tgt := 144) hx hb dX8_line_139 (by decide) (fun c_139 => ?_) (fun c_139 => ?_)
        · skip
          obtain ⟨-, hok1, rfl, rfl, rfl, rfl, hw_136, ef_136, ep_136⟩ := hq_136.resolve_right (fun q => c_139 q.1)
          subst f2_136
          subst p2_136
          have hix : numT fBY n (tNx fBY n pp) ≤ 3 := hok1.2
          refine lv_bipush (v := 10) hx hb dX8_line_144 (by decide) ?_
          refine lv_iconst (v := 4) hx hb dX8_line_146 (by decide) ?_
          refine lv_iload_n hx hb dX8_line_147 rfl (lv_at hl 1 rfl) ?_
          refine m_imulN (a := 4) (b := (wN fBY n pp)) hx hb dX8_line_148 ?_
          refine m_iaddN (a := 10) (b := (4 * (wN fBY n pp))) hx hb dX8_line_149 ?_
          refine lv_aload_n hx hb dX8_line_150 rfl (lv_at hl 2 rfl) ?_
          refine va_get (D := D) (ci := 8) (v := .int (nI (numT fBY n (tNx fBY n pp)))) (C := RX8) (T := TX8) (N := 44) hx hb hts inX8 hown hK hP 1 rfl rfl 29 (by decide) fl147 (fun _ h9 => h9) rfl dX8_line_151 ?_
          refine m_iaddN (a := (10 + (4 * (wN fBY n pp)))) (b := (numT fBY n (tNx fBY n pp))) hx hb dX8_line_154 ?_
          refine lv_istore_n (lv' := [(3, .int (nI ((10 + (4 * (wN fBY n pp))) + (numT fBY n (tNx fBY n pp))))), (2, .int (nI (tSt fBY n (tNx fBY n pp)))), (1, .int (nI (wN fBY n pp))), (0, .ref aM)]) hx hb dX8_line_155 rfl hl (by decide) rfl (fun ls hl => ?_)
          refine lv_aload_n hx hb dX8_line_156 rfl (lv_at hl 3 rfl) ?_
          refine lv_iload_n hx hb dX8_line_157 rfl (lv_at hl 2 rfl) ?_
          refine lv_if_ne (tgt := 166) hx hb dX8_line_158 (by decide) (fun c_158 => ?_) (fun c_158 => ?_)
          · skip
            have k_158 : ¬ (wN fBY n pp) = 0 := fun h9 => c_158 ((nI_eq (a := (wN fBY n pp)) (b := 0) (by omega) (by omega)).mpr h9)
            refine lv_iconst (v := 3) hx hb dX8_line_166 (by decide) ?_
            refine m_cVi (As := [.int 3]) (rest := []) (wr := [ar cI (mA 19) 20 fRU]) ⟨hx, hb, hml, hown, hts⟩ (c_X8_number l D cI cZ aM mA nt th td nm np isd ln rf rp w2_136 (nI (numT fBY n (tNx fBY n pp))) rn ic mcm mcp mcr fBY fWD n (tNx fBY n (tNx fBY n pp)) 3 (by first | assumption | omega) (tNx_le (t := fBY) (by first | exact hp | exact tNx_le (t := fBY) hp)) (by first | assumption | omega) (by first | assumption | omega) (by decide)) (cwV 1 hts gX8_line_X8_number rfl rfl rfl (by decide +kernel) ⟨Nat.le_of_ble_eq_true rfl, Nat.le_of_ble_eq_true rfl⟩) hN hK hP hD hS hA [1, 2, 3] [0] rfl rfl (by decide) (by decide) (by decide) 0 (ci := 8) rfl rfl rfl rfl hl.1 rfl (Nat.le_of_ble_eq_true rfl) dX8_line_167 ⟨Nat.le_of_ble_eq_true rfl, Nat.le_of_ble_eq_true rfl⟩ (fun r_167 u_167 H locs hq_167 hP hD hS => ?_)
            obtain ⟨k2_167, w2_167, s2_167, n2_167, x2_167, f2_167, p2_167⟩ := u_167
            replace hq_167 : (r_167 = 1 ∧ okN fBY n (tNx fBY n (tNx fBY n pp)) 3 ∧ x2_167 = nI (numT fBY n (tNx fBY n (tNx fBY n pp))) ∧ k2_167 = kdM fBY n (tNx fBY n (tNx fBY n (tNx fBY n pp))) ∧ s2_167 = nI (tSt fBY n (tNx fBY n (tNx fBY n (tNx fBY n pp)))) ∧ n2_167 = nI (tNx fBY n (tNx fBY n (tNx fBY n (tNx fBY n pp)))) ∧ mWh fBY n (tNx fBY n (tNx fBY n (tNx fBY n pp))) w2_167 ∧ f2_167 = rf ∧ p2_167 = rp) ∨ (r_167 = 0 ∧ ¬ okN fBY n (tNx fBY n (tNx fBY n pp)) 3 ∧ (f2_167, p2_167) = nuB fBY n (tNx fBY n (tNx fBY n pp)) 3 (0, -1)) := hq_167
            have hP : va_P D vwCl [ar cI (mA 19) 20 fRU, mo aM mA (nI nt) th td (nI nm) (nI np) isd ln f2_167 p2_167 (nI n) n2_167 k2_167 w2_167 s2_167 x2_167 rn ic mcm mcp mcr, ar cI (mA 0) 300 fBY, ar cI (mA 23) 22 fWD] H := hP
            have hD : va_D A [ar cI (mA 19) 20 fRU, mo aM mA (nI nt) th td (nI nm) (nI np) isd ln f2_167 p2_167 (nI n) n2_167 k2_167 w2_167 s2_167 x2_167 rn ic mcm mcp mcr, ar cI (mA 0) 300 fBY, ar cI (mA 23) 22 fWD] := hD
            refine lv_if_ne (tgt := 175) hx hb dX8_line_170 (by decide) (fun c_170 => ?_) (fun c_170 => ?_)
            · skip
              obtain ⟨-, hok2, rfl, rfl, rfl, rfl, hw_167, ef_167, ep_167⟩ := hq_167.resolve_right (fun q => c_170 q.1)
              subst f2_167
              subst p2_167
              refine lv_aload_n hx hb dX8_line_175 rfl (lv_at hl 3 rfl) ?_
              refine va_get (D := D) (ci := 8) (v := .ref (mA 19)) (C := RX8) (T := TX8) (N := 44) hx hb hts inX8 hown hK hP 1 rfl rfl 19 (by decide) fl47 (fun _ h9 => h9) rfl dX8_line_176 ?_
              refine lv_iload_n hx hb dX8_line_179 rfl (lv_at hl 0 rfl) ?_
              refine lv_aload_n hx hb dX8_line_180 rfl (lv_at hl 3 rfl) ?_
              refine va_get (D := D) (ci := 8) (v := .int (nI (numT fBY n (tNx fBY n (tNx fBY n pp))))) (C := RX8) (T := TX8) (N := 44) hx hb hts inX8 hown hK hP 1 rfl rfl 29 (by decide) fl147 (fun _ h9 => h9) rfl dX8_line_181 ?_
              refine m_iast (k := ((10 + (4 * (wN fBY n pp))) + (numT fBY n (tNx fBY n pp)))) (x := (nI (numT fBY n (tNx fBY n (tNx fBY n pp))))) hx hb hK hP hD hS 0 0 rfl rfl (by omega) (by decide) dX8_line_184 (fun H locs hP hD hS => ?_)
              have hP : va_P D vwCl [ar cI (mA 19) 20 (upd fRU ((10 + (4 * (wN fBY n pp))) + (numT fBY n (tNx fBY n pp))) (nI (numT fBY n (tNx fBY n (tNx fBY n pp))))), mo aM mA (nI nt) th td (nI nm) (nI np) isd ln rf rp (nI n) (nI (tNx fBY n (tNx fBY n (tNx fBY n (tNx fBY n pp))))) (kdM fBY n (tNx fBY n (tNx fBY n (tNx fBY n pp)))) w2_167 (nI (tSt fBY n (tNx fBY n (tNx fBY n (tNx fBY n pp))))) (nI (numT fBY n (tNx fBY n (tNx fBY n pp)))) rn ic mcm mcp mcr, ar cI (mA 0) 300 fBY, ar cI (mA 23) 22 fWD] H := hP
              have hD : va_D A [ar cI (mA 19) 20 (upd fRU ((10 + (4 * (wN fBY n pp))) + (numT fBY n (tNx fBY n pp))) (nI (numT fBY n (tNx fBY n (tNx fBY n pp))))), mo aM mA (nI nt) th td (nI nm) (nI np) isd ln rf rp (nI n) (nI (tNx fBY n (tNx fBY n (tNx fBY n (tNx fBY n pp))))) (kdM fBY n (tNx fBY n (tNx fBY n (tNx fBY n pp)))) w2_167 (nI (tSt fBY n (tNx fBY n (tNx fBY n (tNx fBY n pp))))) (nI (numT fBY n (tNx fBY n (tNx fBY n pp)))) rn ic mcm mcp mcr, ar cI (mA 0) 300 fBY, ar cI (mA 23) 22 fWD] := hD
              refine lv_iconst (v := 1) hx hb dX8_line_185 (by decide) ?_
              exact ret 1 ((kdM fBY n (tNx fBY n (tNx fBY n (tNx fBY n pp)))), w2_167, (nI (tSt fBY n (tNx fBY n (tNx fBY n (tNx fBY n pp))))), (nI (tNx fBY n (tNx fBY n (tNx fBY n (tNx fBY n pp))))), (nI (numT fBY n (tNx fBY n (tNx fBY n pp)))), rf, rp, (upd fRU ((10 + (4 * (wN fBY n pp))) + (numT fBY n (tNx fBY n pp))) (nI (numT fBY n (tNx fBY n (tNx fBY n pp)))))) _ _ _ _ dX8_line_186 (Or.inr rfl) (by (first | rw [lf_cg hkw (Nat.not_lt_of_le k_30) hn3 hok1 (ok_mx0 k_158 hok2)] | rw [lf_cg hkw (Nat.not_lt_of_le k_30) hn3 hok1 (ok_mx1 k_158 hok2)]); exact ⟨rfl, rfl, rfl, shR_upd (by omega) (by omega), fun j hj => pk_un (by omega), rfl, rfl, rfl, hw_167⟩) (hP.sub [1, 2, 3, 0] rfl) (hD.sub [1, 2, 3, 0] (by decide) rfl) hS
            · skip
              refine lv_iconst (v := 0) hx hb dX8_line_173 (by decide) ?_
              exact ret 0 (k2_167, w2_167, s2_167, n2_167, x2_167, f2_167, p2_167, fRU) _ _ _ _ dX8_line_174 (Or.inl rfl) (by obtain ⟨-, hb1, hb2⟩ := hq_167.resolve_left (fun q => by rw [q.1] at c_170; exact absurd c_170 (by decide)); (first | rw [lf_cm hkw (Nat.not_lt_of_le k_30) hn3 hok1 (no_mx0 k_158 hb1), nuB_bad hb1 hb2] | rw [lf_cm hkw (Nat.not_lt_of_le k_30) hn3 hok1 (no_mx1 k_158 hb1), nuB_bad hb1 hb2]); exact ⟨rfl, rfl, rfl, fun _ _ => rfl⟩) (hP.sub [1, 2, 3, 0] rfl) (hD.sub [1, 2, 3, 0] (by decide) rfl) hS
          · skip
            have k_158 : (wN fBY n pp) = 0 := (nI_eq (a := (wN fBY n pp)) (b := 0) (by omega) (by omega)).mp c_158
            refine lv_bipush (v := 100) hx hb dX8_line_161 (by decide) ?_
            refine lv_goto (tgt := 167) hx hb dX8_line_163 (by decide) ?_
            refine m_cVi (As := [.int 100]) (rest := []) (wr := [ar cI (mA 19) 20 fRU]) ⟨hx, hb, hml, hown, hts⟩ (c_X8_number l D cI cZ aM mA nt th td nm np isd ln rf rp w2_136 (nI (numT fBY n (tNx fBY n pp))) rn ic mcm mcp mcr fBY fWD n (tNx fBY n (tNx fBY n pp)) 100 (by first | assumption | omega) (tNx_le (t := fBY) (by first | exact hp | exact tNx_le (t := fBY) hp)) (by first | assumption | omega) (by first | assumption | omega) (by decide)) (cwV 1 hts gX8_line_X8_number rfl rfl rfl (by decide +kernel) ⟨Nat.le_of_ble_eq_true rfl, Nat.le_of_ble_eq_true rfl⟩) hN hK hP hD hS hA [1, 2, 3] [0] rfl rfl (by decide) (by decide) (by decide) 0 (ci := 8) rfl rfl rfl rfl hl.1 rfl (Nat.le_of_ble_eq_true rfl) dX8_line_167 ⟨Nat.le_of_ble_eq_true rfl, Nat.le_of_ble_eq_true rfl⟩ (fun r_167 u_167 H locs hq_167 hP hD hS => ?_)
            obtain ⟨k2_167, w2_167, s2_167, n2_167, x2_167, f2_167, p2_167⟩ := u_167
            replace hq_167 : (r_167 = 1 ∧ okN fBY n (tNx fBY n (tNx fBY n pp)) 100 ∧ x2_167 = nI (numT fBY n (tNx fBY n (tNx fBY n pp))) ∧ k2_167 = kdM fBY n (tNx fBY n (tNx fBY n (tNx fBY n pp))) ∧ s2_167 = nI (tSt fBY n (tNx fBY n (tNx fBY n (tNx fBY n pp)))) ∧ n2_167 = nI (tNx fBY n (tNx fBY n (tNx fBY n (tNx fBY n pp)))) ∧ mWh fBY n (tNx fBY n (tNx fBY n (tNx fBY n pp))) w2_167 ∧ f2_167 = rf ∧ p2_167 = rp) ∨ (r_167 = 0 ∧ ¬ okN fBY n (tNx fBY n (tNx fBY n pp)) 100 ∧ (f2_167, p2_167) = nuB fBY n (tNx fBY n (tNx fBY n pp)) 100 (0, -1)) := hq_167
            have hP : va_P D vwCl [ar cI (mA 19) 20 fRU, mo aM mA (nI nt) th td (nI nm) (nI np) isd ln f2_167 p2_167 (nI n) n2_167 k2_167 w2_167 s2_167 x2_167 rn ic mcm mcp mcr, ar cI (mA 0) 300 fBY, ar cI (mA 23) 22 fWD] H := hP
            have hD : va_D A [ar cI (mA 19) 20 fRU, mo aM mA (nI nt) th td (nI nm) (nI np) isd ln f2_167 p2_167 (nI n) n2_167 k2_167 w2_167 s2_167 x2_167 rn ic mcm mcp mcr, ar cI (mA 0) 300 fBY, ar cI (mA 23) 22 fWD] := hD
            refine lv_if_ne (tgt := 175) hx hb dX8_line_170 (by decide) (fun c_170 => ?_) (fun c_170 => ?_)
            · skip
              obtain ⟨-, hok2, rfl, rfl, rfl, rfl, hw_167, ef_167, ep_167⟩ := hq_167.resolve_right (fun q => c_170 q.1)
              subst f2_167
              subst p2_167
              refine lv_aload_n hx hb dX8_line_175 rfl (lv_at hl 3 rfl) ?_
              refine va_get (D := D) (ci := 8) (v := .ref (mA 19)) (C := RX8) (T := TX8) (N := 44) hx hb hts inX8 hown hK hP 1 rfl rfl 19 (by decide) fl47 (fun _ h9 => h9) rfl dX8_line_176 ?_
              refine lv_iload_n hx hb dX8_line_179 rfl (lv_at hl 0 rfl) ?_
              refine lv_aload_n hx hb dX8_line_180 rfl (lv_at hl 3 rfl) ?_
              refine va_get (D := D) (ci := 8) (v := .int (nI (numT fBY n (tNx fBY n (tNx fBY n pp))))) (C := RX8) (T := TX8) (N := 44) hx hb hts inX8 hown hK hP 1 rfl rfl 29 (by decide) fl147 (fun _ h9 => h9) rfl dX8_line_181 ?_
              refine m_iast (k := ((10 + (4 * (wN fBY n pp))) + (numT fBY n (tNx fBY n pp)))) (x := (nI (numT fBY n (tNx fBY n (tNx fBY n pp))))) hx hb hK hP hD hS 0 0 rfl rfl (by omega) (by decide) dX8_line_184 (fun H locs hP hD hS => ?_)
              have hP : va_P D vwCl [ar cI (mA 19) 20 (upd fRU ((10 + (4 * (wN fBY n pp))) + (numT fBY n (tNx fBY n pp))) (nI (numT fBY n (tNx fBY n (tNx fBY n pp))))), mo aM mA (nI nt) th td (nI nm) (nI np) isd ln rf rp (nI n) (nI (tNx fBY n (tNx fBY n (tNx fBY n (tNx fBY n pp))))) (kdM fBY n (tNx fBY n (tNx fBY n (tNx fBY n pp)))) w2_167 (nI (tSt fBY n (tNx fBY n (tNx fBY n (tNx fBY n pp))))) (nI (numT fBY n (tNx fBY n (tNx fBY n pp)))) rn ic mcm mcp mcr, ar cI (mA 0) 300 fBY, ar cI (mA 23) 22 fWD] H := hP
              have hD : va_D A [ar cI (mA 19) 20 (upd fRU ((10 + (4 * (wN fBY n pp))) + (numT fBY n (tNx fBY n pp))) (nI (numT fBY n (tNx fBY n (tNx fBY n pp))))), mo aM mA (nI nt) th td (nI nm) (nI np) isd ln rf rp (nI n) (nI (tNx fBY n (tNx fBY n (tNx fBY n (tNx fBY n pp))))) (kdM fBY n (tNx fBY n (tNx fBY n (tNx fBY n pp)))) w2_167 (nI (tSt fBY n (tNx fBY n (tNx fBY n (tNx fBY n pp))))) (nI (numT fBY n (tNx fBY n (tNx fBY n pp)))) rn ic mcm mcp mcr, ar cI (mA 0) 300 fBY, ar cI (mA 23) 22 fWD] := hD
              refine lv_iconst (v := 1) hx hb dX8_line_185 (by decide) ?_
              exact ret 1 ((kdM fBY n (tNx fBY n (tNx fBY n (tNx fBY n pp)))), w2_167, (nI (tSt fBY n (tNx fBY n (tNx fBY n (tNx fBY n pp))))), (nI (tNx fBY n (tNx fBY n (tNx fBY n (tNx fBY n pp))))), (nI (numT fBY n (tNx fBY n (tNx fBY n pp)))), rf, rp, (upd fRU ((10 + (4 * (wN fBY n pp))) + (numT fBY n (tNx fBY n pp))) (nI (numT fBY n (tNx fBY n (tNx fBY n pp)))))) _ _ _ _ dX8_line_186 (Or.inr rfl) (by (first | rw [lf_cg hkw (Nat.not_lt_of_le k_30) hn3 hok1 (ok_mx0 k_158 hok2)] | rw [lf_cg hkw (Nat.not_lt_of_le k_30) hn3 hok1 (ok_mx1 k_158 hok2)]); exact ⟨rfl, rfl, rfl, shR_upd (by omega) (by omega), fun j hj => pk_un (by omega), rfl, rfl, rfl, hw_167⟩) (hP.sub [1, 2, 3, 0] rfl) (hD.sub [1, 2, 3, 0] (by decide) rfl) hS
            · skip
              refine lv_iconst (v := 0) hx hb dX8_line_173 (by decide) ?_
              exact ret 0 (k2_167, w2_167, s2_167, n2_167, x2_167, f2_167, p2_167, fRU) _ _ _ _ dX8_line_174 (Or.inl rfl) (by obtain ⟨-, hb1, hb2⟩ := hq_167.resolve_left (fun q => by rw [q.1] at c_170; exact absurd c_170 (by decide)); (first | rw [lf_cm hkw (Nat.not_lt_of_le k_30) hn3 hok1 (no_mx0 k_158 hb1), nuB_bad hb1 hb2] | rw [lf_cm hkw (Nat.not_lt_of_le k_30) hn3 hok1 (no_mx1 k_158 hb1), nuB_bad hb1 hb2]); exact ⟨rfl, rfl, rfl, fun _ _ => rfl⟩) (hP.sub [1, 2, 3, 0] rfl) (hD.sub [1, 2, 3, 0] (by decide) rfl) hS
        · skip
          refine lv_iconst (v := 0) hx hb dX8_line_142 (by decide) ?_
          exact ret 0 (k2_136, w2_136, s2_136, n2_136, x2_136, f2_136, p2_136, fRU) _ _ _ _ dX8_line_143 (Or.inl rfl) (by obtain ⟨-, hb1, hb2⟩ := hq_136.resolve_left (fun q => by rw [q.1] at c_139; exact absurd c_139 (by decide)); rw [lf_cn hkw (Nat.not_lt_of_le k_30) hb1, nuB_bad hb1 hb2]; exact ⟨rfl, rfl, rfl, fun _ _ => rfl⟩) (hP.sub [1, 2, 3, 0] rfl) (hD.sub [1, 2, 3, 0] (by decide) rfl) hS
      · skip
        have hkq := kdM_2 c_97
        have ew1 := hw_84.2 hkq
        subst ew1
        have hmb := numM_le hkq
        refine lv_aload_n hx hb dX8_line_100 rfl (lv_at hl 2 rfl) ?_
        refine va_get (D := D) (ci := 8) (v := .int (nI (numM fBY n (tNx fBY n pp)))) (C := RX8) (T := TX8) (N := 44) hx hb hts inX8 hown hK hP 1 rfl rfl 27 (by decide) fl137 (fun _ h9 => h9) rfl dX8_line_101 ?_
        refine lv_iconst (v := 3) hx hb dX8_line_104 (by decide) ?_
        refine lv_icmp_gt (tgt := 134) hx hb dX8_line_105 (by decide) (fun c_105 => ?_) (fun c_105 => ?_)
        · skip
          have k_105 : 3 < (numM fBY n (tNx fBY n pp)) := (nI_ltI (a := 3) (b := (numM fBY n (tNx fBY n pp))) (by omega) (by omega)).mp c_105
          have hn3 : ¬ (okN fBY n (tNx fBY n pp) 3 ∧ ¬ shR fRU (4 * wN fBY n pp + numT fBY n (tNx fBY n pp)) = -1) := (by first | exact fun q => c_97 (kdM_2' q.1.1) | exact fun q => Nat.not_le_of_lt k_105 ((numM_cap le3_999).mpr q.1.2) | exact fun q => q.2 (hsh.trans (hng.mp c_124)))
          refine lv_aload_n hx hb dX8_line_134 rfl (lv_at hl 2 rfl) ?_
          refine lv_iconst (v := 3) hx hb dX8_line_135 (by decide) ?_
          refine m_cVi (As := [.int 3]) (rest := []) (wr := [ar cI (mA 19) 20 fRU]) ⟨hx, hb, hml, hown, hts⟩ (c_X8_number l D cI cZ aM mA nt th td nm np isd ln rf rp (nI (numM fBY n (tNx fBY n pp))) rd rn ic mcm mcp mcr fBY fWD n (tNx fBY n pp) 3 (by first | assumption | omega) (tNx_le (t := fBY) (by first | exact hp | exact tNx_le (t := fBY) hp)) (by first | assumption | omega) (hw_84) (by decide)) (cwV 1 hts gX8_line_X8_number rfl rfl rfl (by decide +kernel) ⟨Nat.le_of_ble_eq_true rfl, Nat.le_of_ble_eq_true rfl⟩) hN hK hP hD hS hA [1, 2, 3] [0] rfl rfl (by decide) (by decide) (by decide) 0 (ci := 8) rfl rfl rfl rfl hl.1 rfl (Nat.le_of_ble_eq_true rfl) dX8_line_136 ⟨Nat.le_of_ble_eq_true rfl, Nat.le_of_ble_eq_true rfl⟩ (fun r_136 u_136 H locs hq_136 hP hD hS => ?_)
          obtain ⟨k2_136, w2_136, s2_136, n2_136, x2_136, f2_136, p2_136⟩ := u_136
          replace hq_136 : (r_136 = 1 ∧ okN fBY n (tNx fBY n pp) 3 ∧ x2_136 = nI (numT fBY n (tNx fBY n pp)) ∧ k2_136 = kdM fBY n (tNx fBY n (tNx fBY n pp)) ∧ s2_136 = nI (tSt fBY n (tNx fBY n (tNx fBY n pp))) ∧ n2_136 = nI (tNx fBY n (tNx fBY n (tNx fBY n pp))) ∧ mWh fBY n (tNx fBY n (tNx fBY n pp)) w2_136 ∧ f2_136 = rf ∧ p2_136 = rp) ∨ (r_136 = 0 ∧ ¬ okN fBY n (tNx fBY n pp) 3 ∧ (f2_136, p2_136) = nuB fBY n (tNx fBY n pp) 3 (0, -1)) := hq_136
          have hP : va_P D vwCl [ar cI (mA 19) 20 fRU, mo aM mA (nI nt) th td (nI nm) (nI np) isd ln f2_136 p2_136 (nI n) n2_136 k2_136 w2_136 s2_136 x2_136 rn ic mcm mcp mcr, ar cI (mA 0) 300 fBY, ar cI (mA 23) 22 fWD] H := hP
          have hD : va_D A [ar cI (mA 19) 20 fRU, mo aM mA (nI nt) th td (nI nm) (nI np) isd ln f2_136 p2_136 (nI n) n2_136 k2_136 w2_136 s2_136 x2_136 rn ic mcm mcp mcr, ar cI (mA 0) 300 fBY, ar cI (mA 23) 22 fWD] := hD
          refine lv_if_ne (tgt := 144) hx hb dX8_line_139 (by decide) (fun c_139 => ?_) (fun c_139 => ?_)
          · skip
            obtain ⟨-, hok1, rfl, rfl, rfl, rfl, hw_136, ef_136, ep_136⟩ := hq_136.resolve_right (fun q => c_139 q.1)
            subst f2_136
            subst p2_136
            have hix : numT fBY n (tNx fBY n pp) ≤ 3 := hok1.2
            refine lv_bipush (v := 10) hx hb dX8_line_144 (by decide) ?_
            refine lv_iconst (v := 4) hx hb dX8_line_146 (by decide) ?_
            refine lv_iload_n hx hb dX8_line_147 rfl (lv_at hl 1 rfl) ?_
            refine m_imulN (a := 4) (b := (wN fBY n pp)) hx hb dX8_line_148 ?_
            refine m_iaddN (a := 10) (b := (4 * (wN fBY n pp))) hx hb dX8_line_149 ?_
            refine lv_aload_n hx hb dX8_line_150 rfl (lv_at hl 2 rfl) ?_
            refine va_get (D := D) (ci := 8) (v := .int (nI (numT fBY n (tNx fBY n pp)))) (C := RX8) (T := TX8) (N := 44) hx hb hts inX8 hown hK hP 1 rfl rfl 29 (by decide) fl147 (fun _ h9 => h9) rfl dX8_line_151 ?_
            refine m_iaddN (a := (10 + (4 * (wN fBY n pp)))) (b := (numT fBY n (tNx fBY n pp))) hx hb dX8_line_154 ?_
            refine lv_istore_n (lv' := [(3, .int (nI ((10 + (4 * (wN fBY n pp))) + (numT fBY n (tNx fBY n pp))))), (2, .int (nI (tSt fBY n (tNx fBY n pp)))), (1, .int (nI (wN fBY n pp))), (0, .ref aM)]) hx hb dX8_line_155 rfl hl (by decide) rfl (fun ls hl => ?_)
            refine lv_aload_n hx hb dX8_line_156 rfl (lv_at hl 3 rfl) ?_
            refine lv_iload_n hx hb dX8_line_157 rfl (lv_at hl 2 rfl) ?_
            refine lv_if_ne (tgt := 166) hx hb dX8_line_158 (by decide) (fun c_158 => ?_) (fun c_158 => ?_)
            · skip
              have k_158 : ¬ (wN fBY n pp) = 0 := fun h9 => c_158 ((nI_eq (a := (wN fBY n pp)) (b := 0) (by omega) (by omega)).mpr h9)
              refine lv_iconst (v := 3) hx hb dX8_line_166 (by decide) ?_
              refine m_cVi (As := [.int 3]) (rest := []) (wr := [ar cI (mA 19) 20 fRU]) ⟨hx, hb, hml, hown, hts⟩ (c_X8_number l D cI cZ aM mA nt th td nm np isd ln rf rp w2_136 (nI (numT fBY n (tNx fBY n pp))) rn ic mcm mcp mcr fBY fWD n (tNx fBY n (tNx fBY n pp)) 3 (by first | assumption | omega) (tNx_le (t := fBY) (by first | exact hp | exact tNx_le (t := fBY) hp)) (by first | assumption | omega) (by first | assumption | omega) (by decide)) (cwV 1 hts gX8_line_X8_number rfl rfl rfl (by decide +kernel) ⟨Nat.le_of_ble_eq_true rfl, Nat.le_of_ble_eq_true rfl⟩) hN hK hP hD hS hA [1, 2, 3] [0] rfl rfl (by decide) (by decide) (by decide) 0 (ci := 8) rfl rfl rfl rfl hl.1 rfl (Nat.le_of_ble_eq_true rfl) dX8_line_167 ⟨Nat.le_of_ble_eq_true rfl, Nat.le_of_ble_eq_true rfl⟩ (fun r_167 u_167 H locs hq_167 hP hD hS => ?_)
              obtain ⟨k2_167, w2_167, s2_167, n2_167, x2_167, f2_167, p2_167⟩ := u_167
              replace hq_167 : (r_167 = 1 ∧ okN fBY n (tNx fBY n (tNx fBY n pp)) 3 ∧ x2_167 = nI (numT fBY n (tNx fBY n (tNx fBY n pp))) ∧ k2_167 = kdM fBY n (tNx fBY n (tNx fBY n (tNx fBY n pp))) ∧ s2_167 = nI (tSt fBY n (tNx fBY n (tNx fBY n (tNx fBY n pp)))) ∧ n2_167 = nI (tNx fBY n (tNx fBY n (tNx fBY n (tNx fBY n pp)))) ∧ mWh fBY n (tNx fBY n (tNx fBY n (tNx fBY n pp))) w2_167 ∧ f2_167 = rf ∧ p2_167 = rp) ∨ (r_167 = 0 ∧ ¬ okN fBY n (tNx fBY n (tNx fBY n pp)) 3 ∧ (f2_167, p2_167) = nuB fBY n (tNx fBY n (tNx fBY n pp)) 3 (0, -1)) := hq_167
              have hP : va_P D vwCl [ar cI (mA 19) 20 fRU, mo aM mA (nI nt) th td (nI nm) (nI np) isd ln f2_167 p2_167 (nI n) n2_167 k2_167 w2_167 s2_167 x2_167 rn ic mcm mcp mcr, ar cI (mA 0) 300 fBY, ar cI (mA 23) 22 fWD] H := hP
              have hD : va_D A [ar cI (mA 19) 20 fRU, mo aM mA (nI nt) th td (nI nm) (nI np) isd ln f2_167 p2_167 (nI n) n2_167 k2_167 w2_167 s2_167 x2_167 rn ic mcm mcp mcr, ar cI (mA 0) 300 fBY, ar cI (mA 23) 22 fWD] := hD
              refine lv_if_ne (tgt := 175) hx hb dX8_line_170 (by decide) (fun c_170 => ?_) (fun c_170 => ?_)
              · skip
                obtain ⟨-, hok2, rfl, rfl, rfl, rfl, hw_167, ef_167, ep_167⟩ := hq_167.resolve_right (fun q => c_170 q.1)
                subst f2_167
                subst p2_167
                refine lv_aload_n hx hb dX8_line_175 rfl (lv_at hl 3 rfl) ?_
                refine va_get (D := D) (ci := 8) (v := .ref (mA 19)) (C := RX8) (T := TX8) (N := 44) hx hb hts inX8 hown hK hP 1 rfl rfl 19 (by decide) fl47 (fun _ h9 => h9) rfl dX8_line_176 ?_
                refine lv_iload_n hx hb dX8_line_179 rfl (lv_at hl 0 rfl) ?_
                refine lv_aload_n hx hb dX8_line_180 rfl (lv_at hl 3 rfl) ?_
                refine va_get (D := D) (ci := 8) (v := .int (nI (numT fBY n (tNx fBY n (tNx fBY n pp))))) (C := RX8) (T := TX8) (N := 44) hx hb hts inX8 hown hK hP 1 rfl rfl 29 (by decide) fl147 (fun _ h9 => h9) rfl dX8_line_181 ?_
                refine m_iast (k := ((10 + (4 * (wN fBY n pp))) + (numT fBY n (tNx fBY n pp)))) (x := (nI (numT fBY n (tNx fBY n (tNx fBY n pp))))) hx hb hK hP hD hS 0 0 rfl rfl (by omega) (by decide) dX8_line_184 (fun H locs hP hD hS => ?_)
                have hP : va_P D vwCl [ar cI (mA 19) 20 (upd fRU ((10 + (4 * (wN fBY n pp))) + (numT fBY n (tNx fBY n pp))) (nI (numT fBY n (tNx fBY n (tNx fBY n pp))))), mo aM mA (nI nt) th td (nI nm) (nI np) isd ln rf rp (nI n) (nI (tNx fBY n (tNx fBY n (tNx fBY n (tNx fBY n pp))))) (kdM fBY n (tNx fBY n (tNx fBY n (tNx fBY n pp)))) w2_167 (nI (tSt fBY n (tNx fBY n (tNx fBY n (tNx fBY n pp))))) (nI (numT fBY n (tNx fBY n (tNx fBY n pp)))) rn ic mcm mcp mcr, ar cI (mA 0) 300 fBY, ar cI (mA 23) 22 fWD] H := hP
                have hD : va_D A [ar cI (mA 19) 20 (upd fRU ((10 + (4 * (wN fBY n pp))) + (numT fBY n (tNx fBY n pp))) (nI (numT fBY n (tNx fBY n (tNx fBY n pp))))), mo aM mA (nI nt) th td (nI nm) (nI np) isd ln rf rp (nI n) (nI (tNx fBY n (tNx fBY n (tNx fBY n (tNx fBY n pp))))) (kdM fBY n (tNx fBY n (tNx fBY n (tNx fBY n pp)))) w2_167 (nI (tSt fBY n (tNx fBY n (tNx fBY n (tNx fBY n pp))))) (nI (numT fBY n (tNx fBY n (tNx fBY n pp)))) rn ic mcm mcp mcr, ar cI (mA 0) 300 fBY, ar cI (mA 23) 22 fWD] := hD
                refine lv_iconst (v := 1) hx hb dX8_line_185 (by decide) ?_
                exact ret 1 ((kdM fBY n (tNx fBY n (tNx fBY n (tNx fBY n pp)))), w2_167, (nI (tSt fBY n (tNx fBY n (tNx fBY n (tNx fBY n pp))))), (nI (tNx fBY n (tNx fBY n (tNx fBY n (tNx fBY n pp))))), (nI (numT fBY n (tNx fBY n (tNx fBY n pp)))), rf, rp, (upd fRU ((10 + (4 * (wN fBY n pp))) + (numT fBY n (tNx fBY n pp))) (nI (numT fBY n (tNx fBY n (tNx fBY n pp)))))) _ _ _ _ dX8_line_186 (Or.inr rfl) (by (first | rw [lf_cg hkw (Nat.not_lt_of_le k_30) hn3 hok1 (ok_mx0 k_158 hok2)] | rw [lf_cg hkw (Nat.not_lt_of_le k_30) hn3 hok1 (ok_mx1 k_158 hok2)]); exact ⟨rfl, rfl, rfl, shR_upd (by omega) (by omega), fun j hj => pk_un (by omega), rfl, rfl, rfl, hw_167⟩) (hP.sub [1, 2, 3, 0] rfl) (hD.sub [1, 2, 3, 0] (by decide) rfl) hS
              · skip
                refine lv_iconst (v := 0) hx hb dX8_line_173 (by decide) ?_
                exact ret 0 (k2_167, w2_167, s2_167, n2_167, x2_167, f2_167, p2_167, fRU) _ _ _ _ dX8_line_174 (Or.inl rfl) (by obtain ⟨-, hb1, hb2⟩ := hq_167.resolve_left (fun q => by rw [q.1] at c_170; exact absurd c_170 (by decide)); (first | rw [lf_cm hkw (Nat.not_lt_of_le k_30) hn3 hok1 (no_mx0 k_158 hb1), nuB_bad hb1 hb2] | rw [lf_cm hkw (Nat.not_lt_of_le k_30) hn3 hok1 (no_mx1 k_158 hb1), nuB_bad hb1 hb2]); exact ⟨rfl, rfl, rfl, fun _ _ => rfl⟩) (hP.sub [1, 2, 3, 0] rfl) (hD.sub [1, 2, 3, 0] (by decide) rfl) hS
            · skip
              have k_158 : (wN fBY n pp) = 0 := (nI_eq (a := (wN fBY n pp)) (b := 0) (by omega) (by omega)).mp c_158
              refine lv_bipush (v := 100) hx hb dX8_line_161 (by decide) ?_
              refine lv_goto (tgt := 167) hx hb dX8_line_163 (by decide) ?_
              refine m_cVi (As := [.int 100]) (rest := []) (wr := [ar cI (mA 19) 20 fRU]) ⟨hx, hb, hml, hown, hts⟩ (c_X8_number l D cI cZ aM mA nt th td nm np isd ln rf rp w2_136 (nI (numT fBY n (tNx fBY n pp))) rn ic mcm mcp mcr fBY fWD n (tNx fBY n (tNx fBY n pp)) 100 (by first | assumption | omega) (tNx_le (t := fBY) (by first | exact hp | exact tNx_le (t := fBY) hp)) (by first | assumption | omega) (by first | assumption | omega) (by decide)) (cwV 1 hts gX8_line_X8_number rfl rfl rfl (by decide +kernel) ⟨Nat.le_of_ble_eq_true rfl, Nat.le_of_ble_eq_true rfl⟩) hN hK hP hD hS hA [1, 2, 3] [0] rfl rfl (by decide) (by decide) (by decide) 0 (ci := 8) rfl rfl rfl rfl hl.1 rfl (Nat.le_of_ble_eq_true rfl) dX8_line_167 ⟨Nat.le_of_ble_eq_true rfl, Nat.le_of_ble_eq_true rfl⟩ (fun r_167 u_167 H locs hq_167 hP hD hS => ?_)
              obtain ⟨k2_167, w2_167, s2_167, n2_167, x2_167, f2_167, p2_167⟩ := u_167
              replace hq_167 : (r_167 = 1 ∧ okN fBY n (tNx fBY n (tNx fBY n pp)) 100 ∧ x2_167 = nI (numT fBY n (tNx fBY n (tNx fBY n pp))) ∧ k2_167 = kdM fBY n (tNx fBY n (tNx fBY n (tNx fBY n pp))) ∧ s2_167 = nI (tSt fBY n (tNx fBY n (tNx fBY n (tNx fBY n pp)))) ∧ n2_167 = nI (tNx fBY n (tNx fBY n (tNx fBY n (tNx fBY n pp)))) ∧ mWh fBY n (tNx fBY n (tNx fBY n (tNx fBY n pp))) w2_167 ∧ f2_167 = rf ∧ p2_167 = rp) ∨ (r_167 = 0 ∧ ¬ okN fBY n (tNx fBY n (tNx fBY n pp)) 100 ∧ (f2_167, p2_167) = nuB fBY n (tNx fBY n (tNx fBY n pp)) 100 (0, -1)) := hq_167
              have hP : va_P D vwCl [ar cI (mA 19) 20 fRU, mo aM mA (nI nt) th td (nI nm) (nI np) isd ln f2_167 p2_167 (nI n) n2_167 k2_167 w2_167 s2_167 x2_167 rn ic mcm mcp mcr, ar cI (mA 0) 300 fBY, ar cI (mA 23) 22 fWD] H := hP
              have hD : va_D A [ar cI (mA 19) 20 fRU, mo aM mA (nI nt) th td (nI nm) (nI np) isd ln f2_167 p2_167 (nI n) n2_167 k2_167 w2_167 s2_167 x2_167 rn ic mcm mcp mcr, ar cI (mA 0) 300 fBY, ar cI (mA 23) 22 fWD] := hD
              refine lv_if_ne (tgt := 175) hx hb dX8_line_170 (by decide) (fun c_170 => ?_) (fun c_170 => ?_)
              · skip
                obtain ⟨-, hok2, rfl, rfl, rfl, rfl, hw_167, ef_167, ep_167⟩ := hq_167.resolve_right (fun q => c_170 q.1)
                subst f2_167
                subst p2_167
                refine lv_aload_n hx hb dX8_line_175 rfl (lv_at hl 3 rfl) ?_
                refine va_get (D := D) (ci := 8) (v := .ref (mA 19)) (C := RX8) (T := TX8) (N := 44) hx hb hts inX8 hown hK hP 1 rfl rfl 19 (by decide) fl47 (fun _ h9 => h9) rfl dX8_line_176 ?_
                refine lv_iload_n hx hb dX8_line_179 rfl (lv_at hl 0 rfl) ?_
                refine lv_aload_n hx hb dX8_line_180 rfl (lv_at hl 3 rfl) ?_
                refine va_get (D := D) (ci := 8) (v := .int (nI (numT fBY n (tNx fBY n (tNx fBY n pp))))) (C := RX8) (T := TX8) (N := 44) hx hb hts inX8 hown hK hP 1 rfl rfl 29 (by decide) fl147 (fun _ h9 => h9) rfl dX8_line_181 ?_
                refine m_iast (k := ((10 + (4 * (wN fBY n pp))) + (numT fBY n (tNx fBY n pp)))) (x := (nI (numT fBY n (tNx fBY n (tNx fBY n pp))))) hx hb hK hP hD hS 0 0 rfl rfl (by omega) (by decide) dX8_line_184 (fun H locs hP hD hS => ?_)
                have hP : va_P D vwCl [ar cI (mA 19) 20 (upd fRU ((10 + (4 * (wN fBY n pp))) + (numT fBY n (tNx fBY n pp))) (nI (numT fBY n (tNx fBY n (tNx fBY n pp))))), mo aM mA (nI nt) th td (nI nm) (nI np) isd ln rf rp (nI n) (nI (tNx fBY n (tNx fBY n (tNx fBY n (tNx fBY n pp))))) (kdM fBY n (tNx fBY n (tNx fBY n (tNx fBY n pp)))) w2_167 (nI (tSt fBY n (tNx fBY n (tNx fBY n (tNx fBY n pp))))) (nI (numT fBY n (tNx fBY n (tNx fBY n pp)))) rn ic mcm mcp mcr, ar cI (mA 0) 300 fBY, ar cI (mA 23) 22 fWD] H := hP
                have hD : va_D A [ar cI (mA 19) 20 (upd fRU ((10 + (4 * (wN fBY n pp))) + (numT fBY n (tNx fBY n pp))) (nI (numT fBY n (tNx fBY n (tNx fBY n pp))))), mo aM mA (nI nt) th td (nI nm) (nI np) isd ln rf rp (nI n) (nI (tNx fBY n (tNx fBY n (tNx fBY n (tNx fBY n pp))))) (kdM fBY n (tNx fBY n (tNx fBY n (tNx fBY n pp)))) w2_167 (nI (tSt fBY n (tNx fBY n (tNx fBY n (tNx fBY n pp))))) (nI (numT fBY n (tNx fBY n (tNx fBY n pp)))) rn ic mcm mcp mcr, ar cI (mA 0) 300 fBY, ar cI (mA 23) 22 fWD] := hD
                refine lv_iconst (v := 1) hx hb dX8_line_185 (by decide) ?_
                exact ret 1 ((kdM fBY n (tNx fBY n (tNx fBY n (tNx fBY n pp)))), w2_167, (nI (tSt fBY n (tNx fBY n (tNx fBY n (tNx fBY n pp))))), (nI (tNx fBY n (tNx fBY n (tNx fBY n (tNx fBY n pp))))), (nI (numT fBY n (tNx fBY n (tNx fBY n pp)))), rf, rp, (upd fRU ((10 + (4 * (wN fBY n pp))) + (numT fBY n (tNx fBY n pp))) (nI (numT fBY n (tNx fBY n (tNx fBY n pp)))))) _ _ _ _ dX8_line_186 (Or.inr rfl) (by (first | rw [lf_cg hkw (Nat.not_lt_of_le k_30) hn3 hok1 (ok_mx0 k_158 hok2)] | rw [lf_cg hkw (Nat.not_lt_of_le k_30) hn3 hok1 (ok_mx1 k_158 hok2)]); exact ⟨rfl, rfl, rfl, shR_upd (by omega) (by omega), fun j hj => pk_un (by omega), rfl, rfl, rfl, hw_167⟩) (hP.sub [1, 2, 3, 0] rfl) (hD.sub [1, 2, 3, 0] (by decide) rfl) hS
              · skip
                refine lv_iconst (v := 0) hx hb dX8_line_173 (by decide) ?_
                exact ret 0 (k2_167, w2_167, s2_167, n2_167, x2_167, f2_167, p2_167, fRU) _ _ _ _ dX8_line_174 (Or.inl rfl) (by obtain ⟨-, hb1, hb2⟩ := hq_167.resolve_left (fun q => by rw [q.1] at c_170; exact absurd c_170 (by decide)); (first | rw [lf_cm hkw (Nat.not_lt_of_le k_30) hn3 hok1 (no_mx0 k_158 hb1), nuB_bad hb1 hb2] | rw [lf_cm hkw (Nat.not_lt_of_le k_30) hn3 hok1 (no_mx1 k_158 hb1), nuB_bad hb1 hb2]); exact ⟨rfl, rfl, rfl, fun _ _ => rfl⟩) (hP.sub [1, 2, 3, 0] rfl) (hD.sub [1, 2, 3, 0] (by decide) rfl) hS
          · skip
            refine lv_iconst (v := 0) hx hb dX8_line_142 (by decide) ?_
            exact ret 0 (k2_136, w2_136, s2_136, n2_136, x2_136, f2_136, p2_136, fRU) _ _ _ _ dX8_line_143 (Or.inl rfl) (by obtain ⟨-, hb1, hb2⟩ := hq_136.resolve_left (fun q => by rw [q.1] at c_139; exact absurd c_139 (by decide)); rw [lf_cn hkw (Nat.not_lt_of_le k_30) hb1, nuB_bad hb1 hb2]; exact ⟨rfl, rfl, rfl, fun _ _ => rfl⟩) (hP.sub [1, 2, 3, 0] rfl) (hD.sub [1, 2, 3, 0] (by decide) rfl) hS
        · skip
          have k_105 : ¬ 3 < (numM fBY n (tNx fBY n pp)) := fun h9 => c_105 ((nI_ltI (a := 3) (b := (numM fBY n (tNx fBY n pp))) (by omega) (by omega)).mpr h9)
          have hnm : numM fBY n (tNx fBY n pp) = numT fBY n (tNx fBY n pp) := numM_eq (mx := 3) (by decide) (Nat.le_of_not_lt k_105)
          have hix : numT fBY n (tNx fBY n pp) ≤ 3 := (by rw [← hnm]; exact Nat.le_of_not_lt k_105)
          refine lv_aload_n hx hb dX8_line_108 rfl (lv_at hl 2 rfl) ?_
          refine va_get (D := D) (ci := 8) (v := .ref (mA 19)) (C := RX8) (T := TX8) (N := 44) hx hb hts inX8 hown hK hP 1 rfl rfl 19 (by decide) fl47 (fun _ h9 => h9) rfl dX8_line_109 ?_
          refine lv_bipush (v := 10) hx hb dX8_line_112 (by decide) ?_
          refine lv_iconst (v := 4) hx hb dX8_line_114 (by decide) ?_
          refine lv_iload_n hx hb dX8_line_115 rfl (lv_at hl 1 rfl) ?_
          refine m_imulN (a := 4) (b := (wN fBY n pp)) hx hb dX8_line_116 ?_
          refine m_iaddN (a := 10) (b := (4 * (wN fBY n pp))) hx hb dX8_line_117 ?_
          refine lv_aload_n hx hb dX8_line_118 rfl (lv_at hl 2 rfl) ?_
          refine va_get (D := D) (ci := 8) (v := .int (nI (numM fBY n (tNx fBY n pp)))) (C := RX8) (T := TX8) (N := 44) hx hb hts inX8 hown hK hP 1 rfl rfl 27 (by decide) fl137 (fun _ h9 => h9) rfl dX8_line_119 ?_
          refine m_iaddN (a := (10 + (4 * (wN fBY n pp)))) (b := (numM fBY n (tNx fBY n pp))) hx hb dX8_line_122 ?_
          have hsh : shR fRU (4 * wN fBY n pp + numT fBY n (tNx fBY n pp)) = fRU (10 + 4 * wN fBY n pp + numM fBY n (tNx fBY n pp)) := (by rw [← hnm]; unfold shR; rw [if_pos (by omega)]; congr 1; omega)
          have hng := rulO_neg hru (j := 4 * wN fBY n pp + numT fBY n (tNx fBY n pp)) (by omega)
          rw [hsh] at hng
          refine m_iald (k := ((10 + (4 * (wN fBY n pp))) + (numM fBY n (tNx fBY n pp)))) hx hb hK hP 0 0 rfl rfl (by omega) (by decide) dX8_line_123 ?_
          refine lv_if_lt (tgt := 134) hx hb dX8_line_124 (by decide) (fun c_124 => ?_) (fun c_124 => ?_)
          · skip
            have hn3 : ¬ (okN fBY n (tNx fBY n pp) 3 ∧ ¬ shR fRU (4 * wN fBY n pp + numT fBY n (tNx fBY n pp)) = -1) := (by first | exact fun q => c_97 (kdM_2' q.1.1) | exact fun q => Nat.not_le_of_lt k_105 ((numM_cap le3_999).mpr q.1.2) | exact fun q => q.2 (hsh.trans (hng.mp c_124)))
            refine lv_aload_n hx hb dX8_line_134 rfl (lv_at hl 2 rfl) ?_
            refine lv_iconst (v := 3) hx hb dX8_line_135 (by decide) ?_
            refine m_cVi (As := [.int 3]) (rest := []) (wr := [ar cI (mA 19) 20 fRU]) ⟨hx, hb, hml, hown, hts⟩ (c_X8_number l D cI cZ aM mA nt th td nm np isd ln rf rp (nI (numM fBY n (tNx fBY n pp))) rd rn ic mcm mcp mcr fBY fWD n (tNx fBY n pp) 3 (by first | assumption | omega) (tNx_le (t := fBY) (by first | exact hp | exact tNx_le (t := fBY) hp)) (by first | assumption | omega) (hw_84) (by decide)) (cwV 1 hts gX8_line_X8_number rfl rfl rfl (by decide +kernel) ⟨Nat.le_of_ble_eq_true rfl, Nat.le_of_ble_eq_true rfl⟩) hN hK hP hD hS hA [1, 2, 3] [0] rfl rfl (by decide) (by decide) (by decide) 0 (ci := 8) rfl rfl rfl rfl hl.1 rfl (Nat.le_of_ble_eq_true rfl) dX8_line_136 ⟨Nat.le_of_ble_eq_true rfl, Nat.le_of_ble_eq_true rfl⟩ (fun r_136 u_136 H locs hq_136 hP hD hS => ?_)
            obtain ⟨k2_136, w2_136, s2_136, n2_136, x2_136, f2_136, p2_136⟩ := u_136
            replace hq_136 : (r_136 = 1 ∧ okN fBY n (tNx fBY n pp) 3 ∧ x2_136 = nI (numT fBY n (tNx fBY n pp)) ∧ k2_136 = kdM fBY n (tNx fBY n (tNx fBY n pp)) ∧ s2_136 = nI (tSt fBY n (tNx fBY n (tNx fBY n pp))) ∧ n2_136 = nI (tNx fBY n (tNx fBY n (tNx fBY n pp))) ∧ mWh fBY n (tNx fBY n (tNx fBY n pp)) w2_136 ∧ f2_136 = rf ∧ p2_136 = rp) ∨ (r_136 = 0 ∧ ¬ okN fBY n (tNx fBY n pp) 3 ∧ (f2_136, p2_136) = nuB fBY n (tNx fBY n pp) 3 (0, -1)) := hq_136
            have hP : va_P D vwCl [ar cI (mA 19) 20 fRU, mo aM mA (nI nt) th td (nI nm) (nI np) isd ln f2_136 p2_136 (nI n) n2_136 k2_136 w2_136 s2_136 x2_136 rn ic mcm mcp mcr, ar cI (mA 0) 300 fBY, ar cI (mA 23) 22 fWD] H := hP
            have hD : va_D A [ar cI (mA 19) 20 fRU, mo aM mA (nI nt) th td (nI nm) (nI np) isd ln f2_136 p2_136 (nI n) n2_136 k2_136 w2_136 s2_136 x2_136 rn ic mcm mcp mcr, ar cI (mA 0) 300 fBY, ar cI (mA 23) 22 fWD] := hD
            refine lv_if_ne (tgt := 144) hx hb dX8_line_139 (by decide) (fun c_139 => ?_) (fun c_139 => ?_)
            · skip
              obtain ⟨-, hok1, rfl, rfl, rfl, rfl, hw_136, ef_136, ep_136⟩ := hq_136.resolve_right (fun q => c_139 q.1)
              subst f2_136
              subst p2_136
              have hix : numT fBY n (tNx fBY n pp) ≤ 3 := hok1.2
              refine lv_bipush (v := 10) hx hb dX8_line_144 (by decide) ?_
              refine lv_iconst (v := 4) hx hb dX8_line_146 (by decide) ?_
              refine lv_iload_n hx hb dX8_line_147 rfl (lv_at hl 1 rfl) ?_
              refine m_imulN (a := 4) (b := (wN fBY n pp)) hx hb dX8_line_148 ?_
              refine m_iaddN (a := 10) (b := (4 * (wN fBY n pp))) hx hb dX8_line_149 ?_
              refine lv_aload_n hx hb dX8_line_150 rfl (lv_at hl 2 rfl) ?_
              refine va_get (D := D) (ci := 8) (v := .int (nI (numT fBY n (tNx fBY n pp)))) (C := RX8) (T := TX8) (N := 44) hx hb hts inX8 hown hK hP 1 rfl rfl 29 (by decide) fl147 (fun _ h9 => h9) rfl dX8_line_151 ?_
              refine m_iaddN (a := (10 + (4 * (wN fBY n pp)))) (b := (numT fBY n (tNx fBY n pp))) hx hb dX8_line_154 ?_
              refine lv_istore_n (lv' := [(3, .int (nI ((10 + (4 * (wN fBY n pp))) + (numT fBY n (tNx fBY n pp))))), (2, .int (nI (tSt fBY n (tNx fBY n pp)))), (1, .int (nI (wN fBY n pp))), (0, .ref aM)]) hx hb dX8_line_155 rfl hl (by decide) rfl (fun ls hl => ?_)
              refine lv_aload_n hx hb dX8_line_156 rfl (lv_at hl 3 rfl) ?_
              refine lv_iload_n hx hb dX8_line_157 rfl (lv_at hl 2 rfl) ?_
              refine lv_if_ne (tgt := 166) hx hb dX8_line_158 (by decide) (fun c_158 => ?_) (fun c_158 => ?_)
              · skip
                have k_158 : ¬ (wN fBY n pp) = 0 := fun h9 => c_158 ((nI_eq (a := (wN fBY n pp)) (b := 0) (by omega) (by omega)).mpr h9)
                refine lv_iconst (v := 3) hx hb dX8_line_166 (by decide) ?_
                refine m_cVi (As := [.int 3]) (rest := []) (wr := [ar cI (mA 19) 20 fRU]) ⟨hx, hb, hml, hown, hts⟩ (c_X8_number l D cI cZ aM mA nt th td nm np isd ln rf rp w2_136 (nI (numT fBY n (tNx fBY n pp))) rn ic mcm mcp mcr fBY fWD n (tNx fBY n (tNx fBY n pp)) 3 (by first | assumption | omega) (tNx_le (t := fBY) (by first | exact hp | exact tNx_le (t := fBY) hp)) (by first | assumption | omega) (by first | assumption | omega) (by decide)) (cwV 1 hts gX8_line_X8_number rfl rfl rfl (by decide +kernel) ⟨Nat.le_of_ble_eq_true rfl, Nat.le_of_ble_eq_true rfl⟩) hN hK hP hD hS hA [1, 2, 3] [0] rfl rfl (by decide) (by decide) (by decide) 0 (ci := 8) rfl rfl rfl rfl hl.1 rfl (Nat.le_of_ble_eq_true rfl) dX8_line_167 ⟨Nat.le_of_ble_eq_true rfl, Nat.le_of_ble_eq_true rfl⟩ (fun r_167 u_167 H locs hq_167 hP hD hS => ?_)
                obtain ⟨k2_167, w2_167, s2_167, n2_167, x2_167, f2_167, p2_167⟩ := u_167
                replace hq_167 : (r_167 = 1 ∧ okN fBY n (tNx fBY n (tNx fBY n pp)) 3 ∧ x2_167 = nI (numT fBY n (tNx fBY n (tNx fBY n pp))) ∧ k2_167 = kdM fBY n (tNx fBY n (tNx fBY n (tNx fBY n pp))) ∧ s2_167 = nI (tSt fBY n (tNx fBY n (tNx fBY n (tNx fBY n pp)))) ∧ n2_167 = nI (tNx fBY n (tNx fBY n (tNx fBY n (tNx fBY n pp)))) ∧ mWh fBY n (tNx fBY n (tNx fBY n (tNx fBY n pp))) w2_167 ∧ f2_167 = rf ∧ p2_167 = rp) ∨ (r_167 = 0 ∧ ¬ okN fBY n (tNx fBY n (tNx fBY n pp)) 3 ∧ (f2_167, p2_167) = nuB fBY n (tNx fBY n (tNx fBY n pp)) 3 (0, -1)) := hq_167
                have hP : va_P D vwCl [ar cI (mA 19) 20 fRU, mo aM mA (nI nt) th td (nI nm) (nI np) isd ln f2_167 p2_167 (nI n) n2_167 k2_167 w2_167 s2_167 x2_167 rn ic mcm mcp mcr, ar cI (mA 0) 300 fBY, ar cI (mA 23) 22 fWD] H := hP
                have hD : va_D A [ar cI (mA 19) 20 fRU, mo aM mA (nI nt) th td (nI nm) (nI np) isd ln f2_167 p2_167 (nI n) n2_167 k2_167 w2_167 s2_167 x2_167 rn ic mcm mcp mcr, ar cI (mA 0) 300 fBY, ar cI (mA 23) 22 fWD] := hD
                refine lv_if_ne (tgt := 175) hx hb dX8_line_170 (by decide) (fun c_170 => ?_) (fun c_170 => ?_)
                · skip
                  obtain ⟨-, hok2, rfl, rfl, rfl, rfl, hw_167, ef_167, ep_167⟩ := hq_167.resolve_right (fun q => c_170 q.1)
                  subst f2_167
                  subst p2_167
                  refine lv_aload_n hx hb dX8_line_175 rfl (lv_at hl 3 rfl) ?_
                  refine va_get (D := D) (ci := 8) (v := .ref (mA 19)) (C := RX8) (T := TX8) (N := 44) hx hb hts inX8 hown hK hP 1 rfl rfl 19 (by decide) fl47 (fun _ h9 => h9) rfl dX8_line_176 ?_
                  refine lv_iload_n hx hb dX8_line_179 rfl (lv_at hl 0 rfl) ?_
                  refine lv_aload_n hx hb dX8_line_180 rfl (lv_at hl 3 rfl) ?_
                  refine va_get (D := D) (ci := 8) (v := .int (nI (numT fBY n (tNx fBY n (tNx fBY n pp))))) (C := RX8) (T := TX8) (N := 44) hx hb hts inX8 hown hK hP 1 rfl rfl 29 (by decide) fl147 (fun _ h9 => h9) rfl dX8_line_181 ?_
                  refine m_iast (k := ((10 + (4 * (wN fBY n pp))) + (numT fBY n (tNx fBY n pp)))) (x := (nI (numT fBY n (tNx fBY n (tNx fBY n pp))))) hx hb hK hP hD hS 0 0 rfl rfl (by omega) (by decide) dX8_line_184 (fun H locs hP hD hS => ?_)
                  have hP : va_P D vwCl [ar cI (mA 19) 20 (upd fRU ((10 + (4 * (wN fBY n pp))) + (numT fBY n (tNx fBY n pp))) (nI (numT fBY n (tNx fBY n (tNx fBY n pp))))), mo aM mA (nI nt) th td (nI nm) (nI np) isd ln rf rp (nI n) (nI (tNx fBY n (tNx fBY n (tNx fBY n (tNx fBY n pp))))) (kdM fBY n (tNx fBY n (tNx fBY n (tNx fBY n pp)))) w2_167 (nI (tSt fBY n (tNx fBY n (tNx fBY n (tNx fBY n pp))))) (nI (numT fBY n (tNx fBY n (tNx fBY n pp)))) rn ic mcm mcp mcr, ar cI (mA 0) 300 fBY, ar cI (mA 23) 22 fWD] H := hP
                  have hD : va_D A [ar cI (mA 19) 20 (upd fRU ((10 + (4 * (wN fBY n pp))) + (numT fBY n (tNx fBY n pp))) (nI (numT fBY n (tNx fBY n (tNx fBY n pp))))), mo aM mA (nI nt) th td (nI nm) (nI np) isd ln rf rp (nI n) (nI (tNx fBY n (tNx fBY n (tNx fBY n (tNx fBY n pp))))) (kdM fBY n (tNx fBY n (tNx fBY n (tNx fBY n pp)))) w2_167 (nI (tSt fBY n (tNx fBY n (tNx fBY n (tNx fBY n pp))))) (nI (numT fBY n (tNx fBY n (tNx fBY n pp)))) rn ic mcm mcp mcr, ar cI (mA 0) 300 fBY, ar cI (mA 23) 22 fWD] := hD
                  refine lv_iconst (v := 1) hx hb dX8_line_185 (by decide) ?_
                  exact ret 1 ((kdM fBY n (tNx fBY n (tNx fBY n (tNx fBY n pp)))), w2_167, (nI (tSt fBY n (tNx fBY n (tNx fBY n (tNx fBY n pp))))), (nI (tNx fBY n (tNx fBY n (tNx fBY n (tNx fBY n pp))))), (nI (numT fBY n (tNx fBY n (tNx fBY n pp)))), rf, rp, (upd fRU ((10 + (4 * (wN fBY n pp))) + (numT fBY n (tNx fBY n pp))) (nI (numT fBY n (tNx fBY n (tNx fBY n pp)))))) _ _ _ _ dX8_line_186 (Or.inr rfl) (by (first | rw [lf_cg hkw (Nat.not_lt_of_le k_30) hn3 hok1 (ok_mx0 k_158 hok2)] | rw [lf_cg hkw (Nat.not_lt_of_le k_30) hn3 hok1 (ok_mx1 k_158 hok2)]); exact ⟨rfl, rfl, rfl, shR_upd (by omega) (by omega), fun j hj => pk_un (by omega), rfl, rfl, rfl, hw_167⟩) (hP.sub [1, 2, 3, 0] rfl) (hD.sub [1, 2, 3, 0] (by decide) rfl) hS
                · skip
                  refine lv_iconst (v := 0) hx hb dX8_line_173 (by decide) ?_
                  exact ret 0 (k2_167, w2_167, s2_167, n2_167, x2_167, f2_167, p2_167, fRU) _ _ _ _ dX8_line_174 (Or.inl rfl) (by obtain ⟨-, hb1, hb2⟩ := hq_167.resolve_left (fun q => by rw [q.1] at c_170; exact absurd c_170 (by decide)); (first | rw [lf_cm hkw (Nat.not_lt_of_le k_30) hn3 hok1 (no_mx0 k_158 hb1), nuB_bad hb1 hb2] | rw [lf_cm hkw (Nat.not_lt_of_le k_30) hn3 hok1 (no_mx1 k_158 hb1), nuB_bad hb1 hb2]); exact ⟨rfl, rfl, rfl, fun _ _ => rfl⟩) (hP.sub [1, 2, 3, 0] rfl) (hD.sub [1, 2, 3, 0] (by decide) rfl) hS
              · skip
                have k_158 : (wN fBY n pp) = 0 := (nI_eq (a := (wN fBY n pp)) (b := 0) (by omega) (by omega)).mp c_158
                refine lv_bipush (v := 100) hx hb dX8_line_161 (by decide) ?_
                refine lv_goto (tgt := 167) hx hb dX8_line_163 (by decide) ?_
                refine m_cVi (As := [.int 100]) (rest := []) (wr := [ar cI (mA 19) 20 fRU]) ⟨hx, hb, hml, hown, hts⟩ (c_X8_number l D cI cZ aM mA nt th td nm np isd ln rf rp w2_136 (nI (numT fBY n (tNx fBY n pp))) rn ic mcm mcp mcr fBY fWD n (tNx fBY n (tNx fBY n pp)) 100 (by first | assumption | omega) (tNx_le (t := fBY) (by first | exact hp | exact tNx_le (t := fBY) hp)) (by first | assumption | omega) (by first | assumption | omega) (by decide)) (cwV 1 hts gX8_line_X8_number rfl rfl rfl (by decide +kernel) ⟨Nat.le_of_ble_eq_true rfl, Nat.le_of_ble_eq_true rfl⟩) hN hK hP hD hS hA [1, 2, 3] [0] rfl rfl (by decide) (by decide) (by decide) 0 (ci := 8) rfl rfl rfl rfl hl.1 rfl (Nat.le_of_ble_eq_true rfl) dX8_line_167 ⟨Nat.le_of_ble_eq_true rfl, Nat.le_of_ble_eq_true rfl⟩ (fun r_167 u_167 H locs hq_167 hP hD hS => ?_)
                obtain ⟨k2_167, w2_167, s2_167, n2_167, x2_167, f2_167, p2_167⟩ := u_167
                replace hq_167 : (r_167 = 1 ∧ okN fBY n (tNx fBY n (tNx fBY n pp)) 100 ∧ x2_167 = nI (numT fBY n (tNx fBY n (tNx fBY n pp))) ∧ k2_167 = kdM fBY n (tNx fBY n (tNx fBY n (tNx fBY n pp))) ∧ s2_167 = nI (tSt fBY n (tNx fBY n (tNx fBY n (tNx fBY n pp)))) ∧ n2_167 = nI (tNx fBY n (tNx fBY n (tNx fBY n (tNx fBY n pp)))) ∧ mWh fBY n (tNx fBY n (tNx fBY n (tNx fBY n pp))) w2_167 ∧ f2_167 = rf ∧ p2_167 = rp) ∨ (r_167 = 0 ∧ ¬ okN fBY n (tNx fBY n (tNx fBY n pp)) 100 ∧ (f2_167, p2_167) = nuB fBY n (tNx fBY n (tNx fBY n pp)) 100 (0, -1)) := hq_167
                have hP : va_P D vwCl [ar cI (mA 19) 20 fRU, mo aM mA (nI nt) th td (nI nm) (nI np) isd ln f2_167 p2_167 (nI n) n2_167 k2_167 w2_167 s2_167 x2_167 rn ic mcm mcp mcr, ar cI (mA 0) 300 fBY, ar cI (mA 23) 22 fWD] H := hP
                have hD : va_D A [ar cI (mA 19) 20 fRU, mo aM mA (nI nt) th td (nI nm) (nI np) isd ln f2_167 p2_167 (nI n) n2_167 k2_167 w2_167 s2_167 x2_167 rn ic mcm mcp mcr, ar cI (mA 0) 300 fBY, ar cI (mA 23) 22 fWD] := hD
                refine lv_if_ne (tgt := 175) hx hb dX8_line_170 (by decide) (fun c_170 => ?_) (fun c_170 => ?_)
                · skip
                  obtain ⟨-, hok2, rfl, rfl, rfl, rfl, hw_167, ef_167, ep_167⟩ := hq_167.resolve_right (fun q => c_170 q.1)
                  subst f2_167
                  subst p2_167
                  refine lv_aload_n hx hb dX8_line_175 rfl (lv_at hl 3 rfl) ?_
                  refine va_get (D := D) (ci := 8) (v := .ref (mA 19)) (C := RX8) (T := TX8) (N := 44) hx hb hts inX8 hown hK hP 1 rfl rfl 19 (by decide) fl47 (fun _ h9 => h9) rfl dX8_line_176 ?_
                  refine lv_iload_n hx hb dX8_line_179 rfl (lv_at hl 0 rfl) ?_
                  refine lv_aload_n hx hb dX8_line_180 rfl (lv_at hl 3 rfl) ?_
                  refine va_get (D := D) (ci := 8) (v := .int (nI (numT fBY n (tNx fBY n (tNx fBY n pp))))) (C := RX8) (T := TX8) (N := 44) hx hb hts inX8 hown hK hP 1 rfl rfl 29 (by decide) fl147 (fun _ h9 => h9) rfl dX8_line_181 ?_
                  refine m_iast (k := ((10 + (4 * (wN fBY n pp))) + (numT fBY n (tNx fBY n pp)))) (x := (nI (numT fBY n (tNx fBY n (tNx fBY n pp))))) hx hb hK hP hD hS 0 0 rfl rfl (by omega) (by decide) dX8_line_184 (fun H locs hP hD hS => ?_)
                  have hP : va_P D vwCl [ar cI (mA 19) 20 (upd fRU ((10 + (4 * (wN fBY n pp))) + (numT fBY n (tNx fBY n pp))) (nI (numT fBY n (tNx fBY n (tNx fBY n pp))))), mo aM mA (nI nt) th td (nI nm) (nI np) isd ln rf rp (nI n) (nI (tNx fBY n (tNx fBY n (tNx fBY n (tNx fBY n pp))))) (kdM fBY n (tNx fBY n (tNx fBY n (tNx fBY n pp)))) w2_167 (nI (tSt fBY n (tNx fBY n (tNx fBY n (tNx fBY n pp))))) (nI (numT fBY n (tNx fBY n (tNx fBY n pp)))) rn ic mcm mcp mcr, ar cI (mA 0) 300 fBY, ar cI (mA 23) 22 fWD] H := hP
                  have hD : va_D A [ar cI (mA 19) 20 (upd fRU ((10 + (4 * (wN fBY n pp))) + (numT fBY n (tNx fBY n pp))) (nI (numT fBY n (tNx fBY n (tNx fBY n pp))))), mo aM mA (nI nt) th td (nI nm) (nI np) isd ln rf rp (nI n) (nI (tNx fBY n (tNx fBY n (tNx fBY n (tNx fBY n pp))))) (kdM fBY n (tNx fBY n (tNx fBY n (tNx fBY n pp)))) w2_167 (nI (tSt fBY n (tNx fBY n (tNx fBY n (tNx fBY n pp))))) (nI (numT fBY n (tNx fBY n (tNx fBY n pp)))) rn ic mcm mcp mcr, ar cI (mA 0) 300 fBY, ar cI (mA 23) 22 fWD] := hD
                  refine lv_iconst (v := 1) hx hb dX8_line_185 (by decide) ?_
                  exact ret 1 ((kdM fBY n (tNx fBY n (tNx fBY n (tNx fBY n pp)))), w2_167, (nI (tSt fBY n (tNx fBY n (tNx fBY n (tNx fBY n pp))))), (nI (tNx fBY n (tNx fBY n (tNx fBY n (tNx fBY n pp))))), (nI (numT fBY n (tNx fBY n (tNx fBY n pp)))), rf, rp, (upd fRU ((10 + (4 * (wN fBY n pp))) + (numT fBY n (tNx fBY n pp))) (nI (numT fBY n (tNx fBY n (tNx fBY n pp)))))) _ _ _ _ dX8_line_186 (Or.inr rfl) (by (first | rw [lf_cg hkw (Nat.not_lt_of_le k_30) hn3 hok1 (ok_mx0 k_158 hok2)] | rw [lf_cg hkw (Nat.not_lt_of_le k_30) hn3 hok1 (ok_mx1 k_158 hok2)]); exact ⟨rfl, rfl, rfl, shR_upd (by omega) (by omega), fun j hj => pk_un (by omega), rfl, rfl, rfl, hw_167⟩) (hP.sub [1, 2, 3, 0] rfl) (hD.sub [1, 2, 3, 0] (by decide) rfl) hS
                · skip
                  refine lv_iconst (v := 0) hx hb dX8_line_173 (by decide) ?_
                  exact ret 0 (k2_167, w2_167, s2_167, n2_167, x2_167, f2_167, p2_167, fRU) _ _ _ _ dX8_line_174 (Or.inl rfl) (by obtain ⟨-, hb1, hb2⟩ := hq_167.resolve_left (fun q => by rw [q.1] at c_170; exact absurd c_170 (by decide)); (first | rw [lf_cm hkw (Nat.not_lt_of_le k_30) hn3 hok1 (no_mx0 k_158 hb1), nuB_bad hb1 hb2] | rw [lf_cm hkw (Nat.not_lt_of_le k_30) hn3 hok1 (no_mx1 k_158 hb1), nuB_bad hb1 hb2]); exact ⟨rfl, rfl, rfl, fun _ _ => rfl⟩) (hP.sub [1, 2, 3, 0] rfl) (hD.sub [1, 2, 3, 0] (by decide) rfl) hS
            · skip
              refine lv_iconst (v := 0) hx hb dX8_line_142 (by decide) ?_
              exact ret 0 (k2_136, w2_136, s2_136, n2_136, x2_136, f2_136, p2_136, fRU) _ _ _ _ dX8_line_143 (Or.inl rfl) (by obtain ⟨-, hb1, hb2⟩ := hq_136.resolve_left (fun q => by rw [q.1] at c_139; exact absurd c_139 (by decide)); rw [lf_cn hkw (Nat.not_lt_of_le k_30) hb1, nuB_bad hb1 hb2]; exact ⟨rfl, rfl, rfl, fun _ _ => rfl⟩) (hP.sub [1, 2, 3, 0] rfl) (hD.sub [1, 2, 3, 0] (by decide) rfl) hS
          · skip
            refine lv_aload_n hx hb dX8_line_127 rfl (lv_at hl 2 rfl) ?_
            refine lv_iconst (v := 3) hx hb dX8_line_128 (by decide) ?_
            refine lv_iload_n hx hb dX8_line_129 rfl (lv_at hl 0 rfl) ?_
            refine m_cVi (As := [.int 3, .int (nI (tSt fBY n (tNx fBY n pp)))]) (rest := []) (wr := [ar cI (mA 19) 20 fRU, ar cI (mA 0) 300 fBY, ar cI (mA 23) 22 fWD]) ⟨hx, hb, hml, hown, hts⟩ (c_X8_wrong l D cI cZ aM mA nt th td nm np isd ln rf rp (nI n) (nI (tNx fBY n (tNx fBY n pp))) (kdM fBY n (tNx fBY n pp)) (nI (numM fBY n (tNx fBY n pp))) (nI (tSt fBY n (tNx fBY n pp))) rd rn ic mcm mcp mcr 3 (nI (tSt fBY n (tNx fBY n pp))) ) (cwV 2 hts gX8_line_X8_wrong rfl rfl rfl (by decide +kernel) ⟨Nat.le_of_ble_eq_true rfl, Nat.le_of_ble_eq_true rfl⟩) hN hK hP hD hS hA [1] [0, 2, 3] rfl rfl (by decide) (by decide) (by decide) 0 (ci := 8) rfl rfl rfl rfl hl.1 rfl (Nat.le_of_ble_eq_true rfl) dX8_line_130 ⟨Nat.le_of_ble_eq_true rfl, Nat.le_of_ble_eq_true rfl⟩ (fun r_130 u_130 H locs hq_130 hP hD hS => ?_)
            replace hq_130 : r_130 = 0 := hq_130
            have hP : va_P D vwCl [ar cI (mA 19) 20 fRU, ar cI (mA 0) 300 fBY, ar cI (mA 23) 22 fWD, mo aM mA (nI nt) th td (nI nm) (nI np) isd ln 3 (nI (tSt fBY n (tNx fBY n pp))) (nI n) (nI (tNx fBY n (tNx fBY n pp))) (kdM fBY n (tNx fBY n pp)) (nI (numM fBY n (tNx fBY n pp))) (nI (tSt fBY n (tNx fBY n pp))) rd rn ic mcm mcp mcr] H := hP
            have hD : va_D A [ar cI (mA 19) 20 fRU, ar cI (mA 0) 300 fBY, ar cI (mA 23) 22 fWD, mo aM mA (nI nt) th td (nI nm) (nI np) isd ln 3 (nI (tSt fBY n (tNx fBY n pp))) (nI n) (nI (tNx fBY n (tNx fBY n pp))) (kdM fBY n (tNx fBY n pp)) (nI (numM fBY n (tNx fBY n pp))) (nI (tSt fBY n (tNx fBY n pp))) rd rn ic mcm mcp mcr] := hD
            exact ret r_130 ((kdM fBY n (tNx fBY n pp)), (nI (numM fBY n (tNx fBY n pp))), (nI (tSt fBY n (tNx fBY n pp))), (nI (tNx fBY n (tNx fBY n pp))), rd, 3, (nI (tSt fBY n (tNx fBY n pp))), fRU) _ _ _ _ dX8_line_133 (Or.inl hq_130) (by subst hq_130; rw [lf_c3 hkw (Nat.not_lt_of_le k_30) ⟨⟨hkq, hix⟩, by rw [hsh]; exact fun q => c_124 (hng.mpr q)⟩]; exact ⟨rfl, rfl, rfl, fun _ _ => rfl⟩) (hP.sub [3, 1, 2, 0] rfl) (hD.sub [3, 1, 2, 0] (by decide) rfl) hS
    · skip
      have k_30 : ¬ (wN fBY n pp) ≤ 1 := fun h9 => c_30 ((nI_leI (a := (wN fBY n pp)) (b := 1) (by omega) (by omega)).mpr h9)
      refine lv_bipush (v := 16) hx hb dX8_line_33 (by decide) ?_
      refine lv_iload_n hx hb dX8_line_35 rfl (lv_at hl 1 rfl) ?_
      refine m_iaddN (a := 16) (b := (wN fBY n pp)) hx hb dX8_line_36 ?_
      refine lv_istore_n (lv' := [(3, .int (nI (16 + (wN fBY n pp)))), (2, .int (nI (tSt fBY n pp))), (1, .int (nI (wN fBY n pp))), (0, .ref aM)]) hx hb dX8_line_37 rfl hl (by decide) rfl (fun ls hl => ?_)
      refine lv_aload_n hx hb dX8_line_38 rfl (lv_at hl 3 rfl) ?_
      refine va_get (D := D) (ci := 8) (v := .ref (mA 19)) (C := RX8) (T := TX8) (N := 44) hx hb hts inX8 hown hK hP 0 rfl rfl 19 (by decide) fl47 (fun _ h9 => h9) rfl dX8_line_39 ?_
      refine lv_iload_n hx hb dX8_line_42 rfl (lv_at hl 0 rfl) ?_
      refine m_iald (k := (16 + (wN fBY n pp))) hx hb hK hP 3 0 rfl rfl (by omega) (by decide) dX8_line_43 ?_
      have hsh : shR fRU (6 + wN fBY n pp) = fRU (16 + wN fBY n pp) := (by unfold shR; rw [if_pos (by omega)]; congr 1; omega)
      have hng := rulO_neg hru (j := 6 + wN fBY n pp) (by omega)
      rw [hsh] at hng
      refine lv_if_lt (tgt := 54) hx hb dX8_line_44 (by decide) (fun c_44 => ?_) (fun c_44 => ?_)
      · skip
        refine lv_aload_n hx hb dX8_line_54 rfl (lv_at hl 3 rfl) ?_
        refine m_cVv (As := []) (rest := []) (wr := [ar cI (mA 19) 20 fRU]) ⟨hx, hb, hml, hown, hts⟩ (c_X8_take l D cI cZ aM mA nt th td nm np isd ln rf rp (kdM fBY n pp) (nI (wN fBY n pp)) (nI (tSt fBY n pp)) rd rn ic mcm mcp mcr fBY fWD n (tNx fBY n pp) (by first | assumption | omega) (tNx_le (t := fBY) (by assumption)) (by first | assumption | omega)) (cwV 0 hts gX8_line_X8_take rfl rfl rfl (by decide +kernel) ⟨Nat.le_of_ble_eq_true rfl, Nat.le_of_ble_eq_true rfl⟩) hN hK hP hD hS hA [0, 1, 2] [3] rfl rfl (by decide) (by decide) (by decide) 0 (ci := 8) rfl rfl rfl rfl hl.1 rfl (Nat.le_of_ble_eq_true rfl) dX8_line_55 ⟨Nat.le_of_ble_eq_true rfl, Nat.le_of_ble_eq_true rfl⟩ (fun u_55 H locs hq_55 hP hD hS => ?_)
        obtain ⟨k2_55, s2_55, n2_55, w2_55⟩ := u_55
        replace hq_55 : k2_55 = kdM fBY n (tNx fBY n pp) ∧ s2_55 = tSt fBY n (tNx fBY n pp) ∧ n2_55 = tNx fBY n (tNx fBY n pp) ∧ mWh fBY n (tNx fBY n pp) w2_55 := hq_55
        have hP : va_P D vwCl [ar cI (mA 19) 20 fRU, mo aM mA (nI nt) th td (nI nm) (nI np) isd ln rf rp (nI n) (nI n2_55) k2_55 w2_55 (nI s2_55) rd rn ic mcm mcp mcr, ar cI (mA 0) 300 fBY, ar cI (mA 23) 22 fWD] H := hP
        have hD : va_D A [ar cI (mA 19) 20 fRU, mo aM mA (nI nt) th td (nI nm) (nI np) isd ln rf rp (nI n) (nI n2_55) k2_55 w2_55 (nI s2_55) rd rn ic mcm mcp mcr, ar cI (mA 0) 300 fBY, ar cI (mA 23) 22 fWD] := hD
        obtain ⟨rfl, rfl, rfl, hw_55⟩ := hq_55
        refine lv_aload_n hx hb dX8_line_58 rfl (lv_at hl 3 rfl) ?_
        refine lv_sipush (v := 999) hx hb dX8_line_59 (by decide) ?_
        refine m_cVi (As := [.int 999]) (rest := []) (wr := [ar cI (mA 19) 20 fRU]) ⟨hx, hb, hml, hown, hts⟩ (c_X8_number l D cI cZ aM mA nt th td nm np isd ln rf rp w2_55 rd rn ic mcm mcp mcr fBY fWD n (tNx fBY n pp) 999 (by first | assumption | omega) (tNx_le (t := fBY) (by first | exact hp | exact tNx_le (t := fBY) hp)) (by first | assumption | omega) (by first | assumption | omega) (by decide)) (cwV 1 hts gX8_line_X8_number rfl rfl rfl (by decide +kernel) ⟨Nat.le_of_ble_eq_true rfl, Nat.le_of_ble_eq_true rfl⟩) hN hK hP hD hS hA [1, 2, 3] [0] rfl rfl (by decide) (by decide) (by decide) 0 (ci := 8) rfl rfl rfl rfl hl.1 rfl (Nat.le_of_ble_eq_true rfl) dX8_line_62 ⟨Nat.le_of_ble_eq_true rfl, Nat.le_of_ble_eq_true rfl⟩ (fun r_62 u_62 H locs hq_62 hP hD hS => ?_)
        obtain ⟨k2_62, w2_62, s2_62, n2_62, x2_62, f2_62, p2_62⟩ := u_62
        replace hq_62 : (r_62 = 1 ∧ okN fBY n (tNx fBY n pp) 999 ∧ x2_62 = nI (numT fBY n (tNx fBY n pp)) ∧ k2_62 = kdM fBY n (tNx fBY n (tNx fBY n pp)) ∧ s2_62 = nI (tSt fBY n (tNx fBY n (tNx fBY n pp))) ∧ n2_62 = nI (tNx fBY n (tNx fBY n (tNx fBY n pp))) ∧ mWh fBY n (tNx fBY n (tNx fBY n pp)) w2_62 ∧ f2_62 = rf ∧ p2_62 = rp) ∨ (r_62 = 0 ∧ ¬ okN fBY n (tNx fBY n pp) 999 ∧ (f2_62, p2_62) = nuB fBY n (tNx fBY n pp) 999 (0, -1)) := hq_62
        have hP : va_P D vwCl [ar cI (mA 19) 20 fRU, mo aM mA (nI nt) th td (nI nm) (nI np) isd ln f2_62 p2_62 (nI n) n2_62 k2_62 w2_62 s2_62 x2_62 rn ic mcm mcp mcr, ar cI (mA 0) 300 fBY, ar cI (mA 23) 22 fWD] H := hP
        have hD : va_D A [ar cI (mA 19) 20 fRU, mo aM mA (nI nt) th td (nI nm) (nI np) isd ln f2_62 p2_62 (nI n) n2_62 k2_62 w2_62 s2_62 x2_62 rn ic mcm mcp mcr, ar cI (mA 0) 300 fBY, ar cI (mA 23) 22 fWD] := hD
        refine lv_if_ne (tgt := 70) hx hb dX8_line_65 (by decide) (fun c_65 => ?_) (fun c_65 => ?_)
        · skip
          obtain ⟨-, hok1, rfl, rfl, rfl, rfl, hw_62, ef_62, ep_62⟩ := hq_62.resolve_right (fun q => c_65 q.1)
          subst f2_62
          subst p2_62
          refine lv_aload_n hx hb dX8_line_70 rfl (lv_at hl 3 rfl) ?_
          refine va_get (D := D) (ci := 8) (v := .ref (mA 19)) (C := RX8) (T := TX8) (N := 44) hx hb hts inX8 hown hK hP 1 rfl rfl 19 (by decide) fl47 (fun _ h9 => h9) rfl dX8_line_71 ?_
          refine lv_iload_n hx hb dX8_line_74 rfl (lv_at hl 0 rfl) ?_
          refine lv_aload_n hx hb dX8_line_75 rfl (lv_at hl 3 rfl) ?_
          refine va_get (D := D) (ci := 8) (v := .int (nI (numT fBY n (tNx fBY n pp)))) (C := RX8) (T := TX8) (N := 44) hx hb hts inX8 hown hK hP 1 rfl rfl 29 (by decide) fl147 (fun _ h9 => h9) rfl dX8_line_76 ?_
          refine m_iast (k := (16 + (wN fBY n pp))) (x := (nI (numT fBY n (tNx fBY n pp)))) hx hb hK hP hD hS 0 0 rfl rfl (by omega) (by decide) dX8_line_79 (fun H locs hP hD hS => ?_)
          have hP : va_P D vwCl [ar cI (mA 19) 20 (upd fRU (16 + (wN fBY n pp)) (nI (numT fBY n (tNx fBY n pp)))), mo aM mA (nI nt) th td (nI nm) (nI np) isd ln rf rp (nI n) (nI (tNx fBY n (tNx fBY n (tNx fBY n pp)))) (kdM fBY n (tNx fBY n (tNx fBY n pp))) w2_62 (nI (tSt fBY n (tNx fBY n (tNx fBY n pp)))) (nI (numT fBY n (tNx fBY n pp))) rn ic mcm mcp mcr, ar cI (mA 0) 300 fBY, ar cI (mA 23) 22 fWD] H := hP
          have hD : va_D A [ar cI (mA 19) 20 (upd fRU (16 + (wN fBY n pp)) (nI (numT fBY n (tNx fBY n pp)))), mo aM mA (nI nt) th td (nI nm) (nI np) isd ln rf rp (nI n) (nI (tNx fBY n (tNx fBY n (tNx fBY n pp)))) (kdM fBY n (tNx fBY n (tNx fBY n pp))) w2_62 (nI (tSt fBY n (tNx fBY n (tNx fBY n pp)))) (nI (numT fBY n (tNx fBY n pp))) rn ic mcm mcp mcr, ar cI (mA 0) 300 fBY, ar cI (mA 23) 22 fWD] := hD
          refine lv_goto (tgt := 185) hx hb dX8_line_80 (by decide) ?_
          refine lv_iconst (v := 1) hx hb dX8_line_185 (by decide) ?_
          exact ret 1 ((kdM fBY n (tNx fBY n (tNx fBY n pp))), w2_62, (nI (tSt fBY n (tNx fBY n (tNx fBY n pp)))), (nI (tNx fBY n (tNx fBY n (tNx fBY n pp)))), (nI (numT fBY n (tNx fBY n pp))), rf, rp, (upd fRU (16 + (wN fBY n pp)) (nI (numT fBY n (tNx fBY n pp))))) _ _ _ _ dX8_line_186 (Or.inr rfl) (by rw [lf_sg hkw (Nat.lt_of_not_le k_30) (hsh.trans (hng.mp c_44)) hok1]; exact ⟨rfl, rfl, rfl, shR_upd (by omega) (by omega), fun j hj => pk_un (by omega), rfl, rfl, rfl, hw_62⟩) (hP.sub [1, 2, 3, 0] rfl) (hD.sub [1, 2, 3, 0] (by decide) rfl) hS
        · skip
          refine lv_iconst (v := 0) hx hb dX8_line_68 (by decide) ?_
          exact ret 0 (k2_62, w2_62, s2_62, n2_62, x2_62, f2_62, p2_62, fRU) _ _ _ _ dX8_line_69 (Or.inl rfl) (by obtain ⟨-, hb1, hb2⟩ := hq_62.resolve_left (fun q => by rw [q.1] at c_65; exact absurd c_65 (by decide)); rw [lf_sn hkw (Nat.lt_of_not_le k_30) (by rw [hsh]; exact hng.mp c_44) hb1, nuB_bad hb1 hb2]; exact ⟨rfl, rfl, rfl, fun _ _ => rfl⟩) (hP.sub [1, 2, 3, 0] rfl) (hD.sub [1, 2, 3, 0] (by decide) rfl) hS
      · skip
        refine lv_aload_n hx hb dX8_line_47 rfl (lv_at hl 3 rfl) ?_
        refine lv_iconst (v := 3) hx hb dX8_line_48 (by decide) ?_
        refine lv_iload_n hx hb dX8_line_49 rfl (lv_at hl 1 rfl) ?_
        refine m_cVi (As := [.int 3, .int (nI (tSt fBY n pp))]) (rest := []) (wr := [ar cI (mA 0) 300 fBY, ar cI (mA 23) 22 fWD, ar cI (mA 19) 20 fRU]) ⟨hx, hb, hml, hown, hts⟩ (c_X8_wrong l D cI cZ aM mA nt th td nm np isd ln rf rp (nI n) (nI (tNx fBY n pp)) (kdM fBY n pp) (nI (wN fBY n pp)) (nI (tSt fBY n pp)) rd rn ic mcm mcp mcr 3 (nI (tSt fBY n pp)) ) (cwV 2 hts gX8_line_X8_wrong rfl rfl rfl (by decide +kernel) ⟨Nat.le_of_ble_eq_true rfl, Nat.le_of_ble_eq_true rfl⟩) hN hK hP hD hS hA [0] [1, 2, 3] rfl rfl (by decide) (by decide) (by decide) 0 (ci := 8) rfl rfl rfl rfl hl.1 rfl (Nat.le_of_ble_eq_true rfl) dX8_line_50 ⟨Nat.le_of_ble_eq_true rfl, Nat.le_of_ble_eq_true rfl⟩ (fun r_50 u_50 H locs hq_50 hP hD hS => ?_)
        replace hq_50 : r_50 = 0 := hq_50
        have hP : va_P D vwCl [ar cI (mA 0) 300 fBY, ar cI (mA 23) 22 fWD, ar cI (mA 19) 20 fRU, mo aM mA (nI nt) th td (nI nm) (nI np) isd ln 3 (nI (tSt fBY n pp)) (nI n) (nI (tNx fBY n pp)) (kdM fBY n pp) (nI (wN fBY n pp)) (nI (tSt fBY n pp)) rd rn ic mcm mcp mcr] H := hP
        have hD : va_D A [ar cI (mA 0) 300 fBY, ar cI (mA 23) 22 fWD, ar cI (mA 19) 20 fRU, mo aM mA (nI nt) th td (nI nm) (nI np) isd ln 3 (nI (tSt fBY n pp)) (nI n) (nI (tNx fBY n pp)) (kdM fBY n pp) (nI (wN fBY n pp)) (nI (tSt fBY n pp)) rd rn ic mcm mcp mcr] := hD
        exact ret r_50 ((kdM fBY n pp), (nI (wN fBY n pp)), (nI (tSt fBY n pp)), (nI (tNx fBY n pp)), rd, 3, (nI (tSt fBY n pp)), fRU) _ _ _ _ dX8_line_53 (Or.inl hq_50) (by subst hq_50; rw [lf_s3 hkw (Nat.lt_of_not_le k_30) (by rw [hsh]; exact fun q => c_44 (hng.mpr q))]; exact ⟨rfl, rfl, rfl, fun _ _ => rfl⟩) (hP.sub [3, 0, 1, 2] rfl) (hD.sub [3, 0, 1, 2] (by decide) rfl) hS
  · skip
    refine lv_aload_n hx hb dX8_line_8 rfl (lv_at hl 0 rfl) ?_
    refine lv_iconst (v := 1) hx hb dX8_line_9 (by decide) ?_
    refine lv_aload_n hx hb dX8_line_10 rfl (lv_at hl 0 rfl) ?_
    refine va_get (D := D) (ci := 8) (v := .int (nI (tSt fBY n pp))) (C := RX8) (T := TX8) (N := 44) hx hb hts inX8 hown hK hP 0 rfl rfl 28 (by decide) fl124 (fun _ h9 => h9) rfl dX8_line_11 ?_
    refine m_cVi (As := [.int 1, .int (nI (tSt fBY n pp))]) (rest := []) (wr := [ar cI (mA 0) 300 fBY, ar cI (mA 23) 22 fWD, ar cI (mA 19) 20 fRU]) ⟨hx, hb, hml, hown, hts⟩ (c_X8_wrong l D cI cZ aM mA nt th td nm np isd ln rf rp (nI n) (nI (tNx fBY n pp)) (kdM fBY n pp) wh (nI (tSt fBY n pp)) rd rn ic mcm mcp mcr 1 (nI (tSt fBY n pp)) ) (cwV 2 hts gX8_line_X8_wrong rfl rfl rfl (by decide +kernel) ⟨Nat.le_of_ble_eq_true rfl, Nat.le_of_ble_eq_true rfl⟩) hN hK hP hD hS hA [0] [1, 2, 3] rfl rfl (by decide) (by decide) (by decide) 0 (ci := 8) rfl rfl rfl rfl hl.1 rfl (Nat.le_of_ble_eq_true rfl) dX8_line_14 ⟨Nat.le_of_ble_eq_true rfl, Nat.le_of_ble_eq_true rfl⟩ (fun r_14 u_14 H locs hq_14 hP hD hS => ?_)
    replace hq_14 : r_14 = 0 := hq_14
    have hP : va_P D vwCl [ar cI (mA 0) 300 fBY, ar cI (mA 23) 22 fWD, ar cI (mA 19) 20 fRU, mo aM mA (nI nt) th td (nI nm) (nI np) isd ln 1 (nI (tSt fBY n pp)) (nI n) (nI (tNx fBY n pp)) (kdM fBY n pp) wh (nI (tSt fBY n pp)) rd rn ic mcm mcp mcr] H := hP
    have hD : va_D A [ar cI (mA 0) 300 fBY, ar cI (mA 23) 22 fWD, ar cI (mA 19) 20 fRU, mo aM mA (nI nt) th td (nI nm) (nI np) isd ln 1 (nI (tSt fBY n pp)) (nI n) (nI (tNx fBY n pp)) (kdM fBY n pp) wh (nI (tSt fBY n pp)) rd rn ic mcm mcp mcr] := hD
    exact ret r_14 ((kdM fBY n pp), wh, (nI (tSt fBY n pp)), (nI (tNx fBY n pp)), rd, 1, (nI (tSt fBY n pp)), fRU) _ _ _ _ dX8_line_17 (Or.inl hq_14) (by subst hq_14; rw [lf_b1 (fun q => c_5 (kdM_1' q.1 q.2))]; exact ⟨rfl, rfl, rfl, fun _ _ => rfl⟩) (hP.sub [3, 0, 1, 2] rfl) (hD.sub [3, 0, 1, 2] (by decide) rfl) hS
abbrev r_c_X8_decree : Room := { frames := 4, cells := 0, slots := 0, locals := 91 }
set_option maxHeartbeats 4000000 in
set_option maxRecDepth 100000 in
theorem c_X8_decree (l : Launch) (D : va_G) (cI cZ : ClassId) (aM : Nat) (mA : Nat → Nat) (nt : Nat) (th : Int32) (td : Int32) (nm : Nat) (np : Nat) (isd : Int32) (ln : Int32) (rf : Int32) (rp : Int32) (sz : Int32) (nx : Int32) (kd : Int32) (wh : Int32) (pl : Int32) (rd : Int32) (rn : Int32) (ic : Int32) (mcm : Int32) (mcp : Int32) (mcr : Int32) (fBY : Nat → Int32) (fWD : Nat → Int32) (fRU : Nat → Int32) (x : Int32) (hnt : nt ≤ 300) (hwd : ∀ j, j < 22 → fWD j = wdF j) : MI l yX8_decree wsX8_decree r_c_X8_decree D cI cZ [.ref aM, .int x] [mo aM mA (nI nt) th td (nI nm) (nI np) isd ln rf rp sz nx kd wh pl rd rn ic mcm mcp mcr, ar cI (mA 0) 300 fBY, ar cI (mA 23) 22 fWD, ar cI (mA 19) 20 fRU] (fun (r : Int32) (u : Int32 × Int32 × Int32 × Int32 × Int32 × Int32 × Int32 × Int32 × Int32 × Int32 × Nat × (Nat → Int32)) => ((x < 0 ∨ nI nt < x) ∧ r = -2 ∧ u.2.2.2.2.2.2.2.2.2.2.1 = nt ∧ u.1 = isd ∧ u.2.1 = ln ∧ u.2.2.1 = rf ∧ u.2.2.2.1 = rp ∧ u.2.2.2.2.2.2.2.2.2.2.2 = fRU) ∨ (¬ (x < 0 ∨ nI nt < x) ∧ u.2.2.2.2.2.2.2.2.2.2.1 = 0 ∧ ∃ n X, n ≤ nt ∧ x = nI n ∧ Reads fBY n 0 ru0 0 X ∧ txM fRU u.2.2.2.2.2.2.2.2.2.2.2 isd u.1 ln u.2.1 r u.2.2.1 u.2.2.2.1 X)) (fun (u : Int32 × Int32 × Int32 × Int32 × Int32 × Int32 × Int32 × Int32 × Int32 × Int32 × Nat × (Nat → Int32)) => [mo aM mA (nI u.2.2.2.2.2.2.2.2.2.2.1) 0 td (nI nm) (nI np) u.1 u.2.1 u.2.2.1 u.2.2.2.1 u.2.2.2.2.1 u.2.2.2.2.2.2.2.2.1 u.2.2.2.2.2.1 u.2.2.2.2.2.2.1 u.2.2.2.2.2.2.2.1 u.2.2.2.2.2.2.2.2.2.1 rn ic mcm mcp mcr, ar cI (mA 0) 300 fBY, ar cI (mA 23) 22 fWD, ar cI (mA 19) 20 u.2.2.2.2.2.2.2.2.2.2.2]) 0 0 := by
  refine MI.of (cc := cX8_decree) (maxL := 4) (by decide) rfl (Nat.le_of_ble_eq_true rfl) ?_
  intro p e s m below meth c A Q hx hb hml hown hts hN hK hA ret hP hD hS ls hl
  have hown : s.vm.findClass RX8 = some m.cls := hown
  have inX8 : ∀ w ∈ wsX80, w ∈ wsX8_decree := by decide +kernel
  have fl47 := hts (.fieldLink RX8 47 "AdvanceBookModel" "rule" "[I") (by decide +kernel)
  have fl50 := hts (.fieldLink RX8 50 "AdvanceBookModel" "faultPlace" "I") (by decide +kernel)
  have fl87 := hts (.fieldLink RX8 87 "AdvanceBookModel" "thrown" "I") (by decide +kernel)
  have fl90 := hts (.fieldLink RX8 90 "AdvanceBookModel" "tapeSize" "I") (by decide +kernel)
  have fl115 := hts (.fieldLink RX8 115 "AdvanceBookModel" "fault" "I") (by decide +kernel)
  have fl118 := hts (.fieldLink RX8 118 "AdvanceBookModel" "size" "I") (by decide +kernel)
  have fl121 := hts (.fieldLink RX8 121 "AdvanceBookModel" "next" "I") (by decide +kernel)
  have fl124 := hts (.fieldLink RX8 124 "AdvanceBookModel" "place" "I") (by decide +kernel)
  have fl127 := hts (.fieldLink RX8 127 "AdvanceBookModel" "kind" "I") (by decide +kernel)
  have fl160 := hts (.fieldLink RX8 160 "AdvanceBookModel" "isDecree" "Z") (by decide +kernel)
  have fl164 := hts (.fieldLink RX8 164 "AdvanceBookModel" "lines" "I") (by decide +kernel)
  have hP : va_P D vwCl [mo aM mA (nI nt) th td (nI nm) (nI np) isd ln rf rp sz nx kd wh pl rd rn ic mcm mcp mcr, ar cI (mA 0) 300 fBY, ar cI (mA 23) 22 fWD, ar cI (mA 19) 20 fRU] s.heap := hP
  have hD : va_D A [mo aM mA (nI nt) th td (nI nm) (nI np) isd ln rf rp sz nx kd wh pl rd rn ic mcm mcp mcr, ar cI (mA 0) 300 fBY, ar cI (mA 23) 22 fWD, ar cI (mA 19) 20 fRU] := hD
  have hl : lv_has ls 4 [(0, .ref aM), (1, .int x)] := hl
  refine lv_aload_n hx hb dX8_decree_0 rfl (lv_at hl 0 rfl) ?_
  refine lv_iconst (v := 0) hx hb dX8_decree_1 (by decide) ?_
  refine va_put (D := D) (ci := 8) (v := .int 0) (ty := .int) (C := RX8) (T := TX8) (N := 44) hx hb hts inX8 tyX8 tyX8_ok nmX8 hown hK hP hD hS 0 rfl rfl 2 (by decide) fl87 (fun _ h9 => h9) rfl (by decide +kernel) (rfl) (rfl) (Nat.le_of_ble_eq_true rfl) dX8_decree_2 (fun H locs hP hD hS => ?_)
  have hP : va_P D vwCl [mo aM mA (nI nt) 0 td (nI nm) (nI np) isd ln rf rp sz nx kd wh pl rd rn ic mcm mcp mcr, ar cI (mA 0) 300 fBY, ar cI (mA 23) 22 fWD, ar cI (mA 19) 20 fRU] H := hP
  have hD : va_D A [mo aM mA (nI nt) 0 td (nI nm) (nI np) isd ln rf rp sz nx kd wh pl rd rn ic mcm mcp mcr, ar cI (mA 0) 300 fBY, ar cI (mA 23) 22 fWD, ar cI (mA 19) 20 fRU] := hD
  refine lv_iload_n hx hb dX8_decree_5 rfl (lv_at hl 1 rfl) ?_
  refine lv_if_lt (tgt := 17) hx hb dX8_decree_6 (by decide) (fun c_6 => ?_) (fun c_6 => ?_)
  · skip
    refine lv_bipush (v := (-2)) hx hb dX8_decree_17 (by decide) ?_
    exact ret (-2) (isd, ln, rf, rp, sz, kd, wh, pl, nx, rd, nt, fRU) _ _ _ _ dX8_decree_19 (Or.inl ⟨by first | exact Or.inl c_6 | exact Or.inr (Int32.not_le.mp c_14), rfl, rfl, rfl, rfl, rfl, rfl, rfl⟩) (hP) (hD) hS
  · skip
    refine lv_iload_n hx hb dX8_decree_9 rfl (lv_at hl 1 rfl) ?_
    refine lv_aload_n hx hb dX8_decree_10 rfl (lv_at hl 0 rfl) ?_
    refine va_get (D := D) (ci := 8) (v := .int (nI nt)) (C := RX8) (T := TX8) (N := 44) hx hb hts inX8 hown hK hP 0 rfl rfl 1 (by decide) fl90 (fun _ h9 => h9) rfl dX8_decree_11 ?_
    refine lv_icmp_le (tgt := 20) hx hb dX8_decree_14 (by decide) (fun c_14 => ?_) (fun c_14 => ?_)
    · skip
      have hxn : ¬ (x < 0 ∨ nI nt < x) := fun z => z.elim c_6 (fun y => Int32.not_le.mpr y c_14)
      obtain ⟨n, hn8, rfl⟩ := nI_of c_6
      have hn9 : n ≤ nt := (nI_leI (by omega) (by omega)).mp c_14
      have hn : n ≤ 300 := Nat.le_trans hn9 hnt
      refine lv_aload_n hx hb dX8_decree_20 rfl (lv_at hl 0 rfl) ?_
      refine lv_iload_n hx hb dX8_decree_21 rfl (lv_at hl 1 rfl) ?_
      refine va_put (D := D) (ci := 8) (v := .int (nI n)) (ty := .int) (C := RX8) (T := TX8) (N := 44) hx hb hts inX8 tyX8 tyX8_ok nmX8 hown hK hP hD hS 0 rfl rfl 24 (by decide) fl118 (fun _ h9 => h9) rfl (by decide +kernel) (rfl) (rfl) (Nat.le_of_ble_eq_true rfl) dX8_decree_22 (fun H locs hP hD hS => ?_)
      have hP : va_P D vwCl [mo aM mA (nI nt) 0 td (nI nm) (nI np) isd ln rf rp (nI n) nx kd wh pl rd rn ic mcm mcp mcr, ar cI (mA 0) 300 fBY, ar cI (mA 23) 22 fWD, ar cI (mA 19) 20 fRU] H := hP
      have hD : va_D A [mo aM mA (nI nt) 0 td (nI nm) (nI np) isd ln rf rp (nI n) nx kd wh pl rd rn ic mcm mcp mcr, ar cI (mA 0) 300 fBY, ar cI (mA 23) 22 fWD, ar cI (mA 19) 20 fRU] := hD
      refine lv_aload_n hx hb dX8_decree_25 rfl (lv_at hl 0 rfl) ?_
      refine lv_iconst (v := 0) hx hb dX8_decree_26 (by decide) ?_
      refine va_put (D := D) (ci := 8) (v := .int 0) (ty := .int) (C := RX8) (T := TX8) (N := 44) hx hb hts inX8 tyX8 tyX8_ok nmX8 hown hK hP hD hS 0 rfl rfl 1 (by decide) fl90 (fun _ h9 => h9) rfl (by decide +kernel) (rfl) (rfl) (Nat.le_of_ble_eq_true rfl) dX8_decree_27 (fun H locs hP hD hS => ?_)
      have hP : va_P D vwCl [mo aM mA 0 0 td (nI nm) (nI np) isd ln rf rp (nI n) nx kd wh pl rd rn ic mcm mcp mcr, ar cI (mA 0) 300 fBY, ar cI (mA 23) 22 fWD, ar cI (mA 19) 20 fRU] H := hP
      have hD : va_D A [mo aM mA 0 0 td (nI nm) (nI np) isd ln rf rp (nI n) nx kd wh pl rd rn ic mcm mcp mcr, ar cI (mA 0) 300 fBY, ar cI (mA 23) 22 fWD, ar cI (mA 19) 20 fRU] := hD
      refine lv_aload_n hx hb dX8_decree_30 rfl (lv_at hl 0 rfl) ?_
      refine lv_iconst (v := 0) hx hb dX8_decree_31 (by decide) ?_
      refine va_put (D := D) (ci := 8) (v := .int 0) (ty := .int) (C := RX8) (T := TX8) (N := 44) hx hb hts inX8 tyX8 tyX8_ok nmX8 hown hK hP hD hS 0 rfl rfl 20 (by decide) fl115 (fun _ h9 => h9) rfl (by decide +kernel) (rfl) (rfl) (Nat.le_of_ble_eq_true rfl) dX8_decree_32 (fun H locs hP hD hS => ?_)
      have hP : va_P D vwCl [mo aM mA 0 0 td (nI nm) (nI np) isd ln 0 rp (nI n) nx kd wh pl rd rn ic mcm mcp mcr, ar cI (mA 0) 300 fBY, ar cI (mA 23) 22 fWD, ar cI (mA 19) 20 fRU] H := hP
      have hD : va_D A [mo aM mA 0 0 td (nI nm) (nI np) isd ln 0 rp (nI n) nx kd wh pl rd rn ic mcm mcp mcr, ar cI (mA 0) 300 fBY, ar cI (mA 23) 22 fWD, ar cI (mA 19) 20 fRU] := hD
      refine lv_aload_n hx hb dX8_decree_35 rfl (lv_at hl 0 rfl) ?_
      refine lv_iconst (v := (-1)) hx hb dX8_decree_36 (by decide) ?_
      refine va_put (D := D) (ci := 8) (v := .int (-1)) (ty := .int) (C := RX8) (T := TX8) (N := 44) hx hb hts inX8 tyX8 tyX8_ok nmX8 hown hK hP hD hS 0 rfl rfl 21 (by decide) fl50 (fun _ h9 => h9) rfl (by decide +kernel) (rfl) (rfl) (Nat.le_of_ble_eq_true rfl) dX8_decree_37 (fun H locs hP hD hS => ?_)
      have hP : va_P D vwCl [mo aM mA 0 0 td (nI nm) (nI np) isd ln 0 (-1) (nI n) nx kd wh pl rd rn ic mcm mcp mcr, ar cI (mA 0) 300 fBY, ar cI (mA 23) 22 fWD, ar cI (mA 19) 20 fRU] H := hP
      have hD : va_D A [mo aM mA 0 0 td (nI nm) (nI np) isd ln 0 (-1) (nI n) nx kd wh pl rd rn ic mcm mcp mcr, ar cI (mA 0) 300 fBY, ar cI (mA 23) 22 fWD, ar cI (mA 19) 20 fRU] := hD
      refine lv_bipush (v := 10) hx hb dX8_decree_40 (by decide) ?_
      refine lv_istore_n (lv' := [(2, .int 10), (0, .ref aM), (1, .int (nI n))]) hx hb dX8_decree_42 rfl hl (by decide) rfl (fun ls hl => ?_)
      have L_43 : ∀ (n_43 : Nat) (k : Nat) (hRU : Nat → Int32), (20 - k < n_43) → (10 ≤ k) → (k ≤ 20) → (∀ j, j < 10 → hRU j = fRU j) → (∀ j, 10 ≤ j → j < k → hRU j = -1) → ∀ (H : Heap) (locs : List Loc), va_P D vwCl [mo aM mA 0 0 td (nI nm) (nI np) isd ln 0 (-1) (nI n) nx kd wh pl rd rn ic mcm mcp mcr, ar cI (mA 0) 300 fBY, ar cI (mA 23) 22 fWD, ar cI (mA 19) 20 hRU] H → va_D A [mo aM mA 0 0 td (nI nm) (nI np) isd ln 0 (-1) (nI n) nx kd wh pl rd rn ic mcm mcp mcr, ar cI (mA 0) 300 fBY, ar cI (mA 23) 22 fWD, ar cI (mA 19) 20 hRU] → va_S A s.heap H locs → ∀ ls : Array Slot, lv_has ls 4 [(0, .ref aM), (1, .int (nI n)), (2, .int (nI k))] → W p l e r_c_X8_decree s m (([.ref aM, .int (nI n)] : List Value).toArray) below meth c H locs 0 0 Q (F0 m 43 ls []) := by
        intro n_43
        induction n_43 with
        | zero => intro k hRU hfu; exact absurd hfu (Nat.not_lt_zero _)
        | succ n_43 ih_43 =>
          intro k hRU hfu_43 hk1 hk hh1 hh2 H locs hP hD hS ls hl
          refine lv_iload_n hx hb dX8_decree_43 rfl (lv_at hl 2 rfl) ?_
          refine lv_bipush (v := 20) hx hb dX8_decree_44 (by decide) ?_
          refine lv_icmp_ge (tgt := 62) hx hb dX8_decree_46 (by decide) (fun c_46 => ?_) (fun c_46 => ?_)
          · skip
            have k_46 : 20 ≤ k := (nI_leI (a := 20) (b := k) (by omega) (by omega)).mp c_46
            have ek : k = 20 := (by omega)
            subst ek
            have hsr : shR hRU = ru0 := (by funext j; unfold shR ru0; by_cases z : j < 10; rw [if_pos z, if_pos z]; exact hh2 _ (by omega) (by omega); rw [if_neg z, if_neg z])
            refine lv_aload_n hx hb dX8_decree_62 rfl (lv_at hl 0 rfl) ?_
            refine lv_iconst (v := 0) hx hb dX8_decree_63 (by decide) ?_
            refine va_put (D := D) (ci := 8) (v := .int 0) (ty := .int) (C := RX8) (T := TX8) (N := 44) hx hb hts inX8 tyX8 tyX8_ok nmX8 hown hK hP hD hS 0 rfl rfl 25 (by decide) fl121 (fun _ h9 => h9) rfl (by decide +kernel) (rfl) (rfl) (Nat.le_of_ble_eq_true rfl) dX8_decree_64 (fun H locs hP hD hS => ?_)
            have hP : va_P D vwCl [mo aM mA 0 0 td (nI nm) (nI np) isd ln 0 (-1) (nI n) 0 kd wh pl rd rn ic mcm mcp mcr, ar cI (mA 0) 300 fBY, ar cI (mA 23) 22 fWD, ar cI (mA 19) 20 hRU] H := hP
            have hD : va_D A [mo aM mA 0 0 td (nI nm) (nI np) isd ln 0 (-1) (nI n) 0 kd wh pl rd rn ic mcm mcp mcr, ar cI (mA 0) 300 fBY, ar cI (mA 23) 22 fWD, ar cI (mA 19) 20 hRU] := hD
            refine lv_iconst (v := 0) hx hb dX8_decree_67 (by decide) ?_
            refine lv_istore_n (lv' := [(2, .int 0), (0, .ref aM), (1, .int (nI n))]) hx hb dX8_decree_68 rfl hl (by decide) rfl (fun ls hl => ?_)
            refine lv_aload_n hx hb dX8_decree_69 rfl (lv_at hl 1 rfl) ?_
            refine m_cVv (As := []) (rest := []) (wr := [ar cI (mA 19) 20 hRU]) ⟨hx, hb, hml, hown, hts⟩ (c_X8_take l D cI cZ aM mA 0 0 td nm np isd ln 0 (-1) kd wh pl rd rn ic mcm mcp mcr fBY fWD n 0 (by first | assumption | omega) (Nat.zero_le _) (by first | assumption | omega)) (cwV 0 hts gX8_decree_X8_take rfl rfl rfl (by decide +kernel) ⟨Nat.le_of_ble_eq_true rfl, Nat.le_of_ble_eq_true rfl⟩) hN hK hP hD hS hA [0, 1, 2] [3] rfl rfl (by decide) (by decide) (by decide) 0 (ci := 8) rfl rfl rfl rfl hl.1 rfl (Nat.le_of_ble_eq_true rfl) dX8_decree_70 ⟨Nat.le_of_ble_eq_true rfl, Nat.le_of_ble_eq_true rfl⟩ (fun u_70 H locs hq_70 hP hD hS => ?_)
            obtain ⟨k2_70, s2_70, n2_70, w2_70⟩ := u_70
            replace hq_70 : k2_70 = kdM fBY n 0 ∧ s2_70 = tSt fBY n 0 ∧ n2_70 = tNx fBY n 0 ∧ mWh fBY n 0 w2_70 := hq_70
            have hP : va_P D vwCl [ar cI (mA 19) 20 hRU, mo aM mA (nI 0) 0 td (nI nm) (nI np) isd ln 0 (-1) (nI n) (nI n2_70) k2_70 w2_70 (nI s2_70) rd rn ic mcm mcp mcr, ar cI (mA 0) 300 fBY, ar cI (mA 23) 22 fWD] H := hP
            have hD : va_D A [ar cI (mA 19) 20 hRU, mo aM mA (nI 0) 0 td (nI nm) (nI np) isd ln 0 (-1) (nI n) (nI n2_70) k2_70 w2_70 (nI s2_70) rd rn ic mcm mcp mcr, ar cI (mA 0) 300 fBY, ar cI (mA 23) 22 fWD] := hD
            obtain ⟨rfl, rfl, rfl, hw_70⟩ := hq_70
            have L_73 : ∀ (n_73 : Nat) (q : Nat) (my : Nat) (kRU : Nat → Int32) (wh3 : Int32) (rd3 : Int32), (n - q < n_73) → (q ≤ n) → (mWh fBY n q wh3) → (∀ X, Reads fBY n q (shR kRU) my X → Reads fBY n 0 ru0 0 X) → (∀ j, j < 10 → kRU j = fRU j) → (rulO (shR kRU)) → ∀ (H : Heap) (locs : List Loc), va_P D vwCl [ar cI (mA 19) 20 kRU, mo aM mA (nI 0) 0 td (nI nm) (nI np) isd ln 0 (-1) (nI n) (nI (tNx fBY n q)) (kdM fBY n q) wh3 (nI (tSt fBY n q)) rd3 rn ic mcm mcp mcr, ar cI (mA 0) 300 fBY, ar cI (mA 23) 22 fWD] H → va_D A [ar cI (mA 19) 20 kRU, mo aM mA (nI 0) 0 td (nI nm) (nI np) isd ln 0 (-1) (nI n) (nI (tNx fBY n q)) (kdM fBY n q) wh3 (nI (tSt fBY n q)) rd3 rn ic mcm mcp mcr, ar cI (mA 0) 300 fBY, ar cI (mA 23) 22 fWD] → va_S A s.heap H locs → ∀ ls : Array Slot, lv_has ls 4 [(0, .ref aM), (1, .int (nI n)), (2, .int (nI my))] → W p l e r_c_X8_decree s m (([.ref aM, .int (nI n)] : List Value).toArray) below meth c H locs 0 0 Q (F0 m 73 ls []) := by
              intro n_73
              induction n_73 with
              | zero => intro q my kRU wh3 rd3 hfu; exact absurd hfu (Nat.not_lt_zero _)
              | succ n_73 ih_73 =>
                intro q my kRU wh3 rd3 hfu_73 hq9 hwq hX hkp hrl H locs hP hD hS ls hl
                refine lv_aload_n hx hb dX8_decree_73 rfl (lv_at hl 0 rfl) ?_
                refine va_get (D := D) (ci := 8) (v := .int (kdM fBY n q)) (C := RX8) (T := TX8) (N := 44) hx hb hts inX8 hown hK hP 1 rfl rfl 26 (by decide) fl127 (fun _ h9 => h9) rfl dX8_decree_74 ?_
                refine lv_if_eq (tgt := 119) hx hb dX8_decree_77 (by decide) (fun c_77 => ?_) (fun c_77 => ?_)
                · skip
                  refine lv_iconst (v := 0) hx hb dX8_decree_119 (by decide) ?_
                  refine lv_istore_n (lv' := [(3, .int 0), (0, .ref aM), (1, .int (nI n)), (2, .int (nI my))]) hx hb dX8_decree_120 rfl hl (by decide) rfl (fun ls hl => ?_)
                  have L_121 : ∀ (n_121 : Nat) (k : Nat) (hRU2 : Nat → Int32), (10 - k < n_121) → (k ≤ 10) → (∀ j, j < k → hRU2 j = kRU (10 + j)) → (∀ j, 10 ≤ j → hRU2 j = kRU j) → ∀ (H : Heap) (locs : List Loc), va_P D vwCl [ar cI (mA 19) 20 hRU2, mo aM mA (nI 0) 0 td (nI nm) (nI np) isd ln 0 (-1) (nI n) (nI (tNx fBY n q)) (kdM fBY n q) wh3 (nI (tSt fBY n q)) rd3 rn ic mcm mcp mcr, ar cI (mA 0) 300 fBY, ar cI (mA 23) 22 fWD] H → va_D A [ar cI (mA 19) 20 hRU2, mo aM mA (nI 0) 0 td (nI nm) (nI np) isd ln 0 (-1) (nI n) (nI (tNx fBY n q)) (kdM fBY n q) wh3 (nI (tSt fBY n q)) rd3 rn ic mcm mcp mcr, ar cI (mA 0) 300 fBY, ar cI (mA 23) 22 fWD] → va_S A s.heap H locs → ∀ ls : Array Slot, lv_has ls 4 [(0, .ref aM), (1, .int (nI n)), (2, .int (nI my)), (3, .int (nI k))] → W p l e r_c_X8_decree s m (([.ref aM, .int (nI n)] : List Value).toArray) below meth c H locs 0 0 Q (F0 m 121 ls []) := by
                    intro n_121
                    induction n_121 with
                    | zero => intro k hRU2 hfu; exact absurd hfu (Nat.not_lt_zero _)
                    | succ n_121 ih_121 =>
                      intro k hRU2 hfu_121 hk g1 g2 H locs hP hD hS ls hl
                      refine lv_iload_n hx hb dX8_decree_121 rfl (lv_at hl 3 rfl) ?_
                      refine lv_bipush (v := 10) hx hb dX8_decree_122 (by decide) ?_
                      refine lv_icmp_ge (tgt := 148) hx hb dX8_decree_124 (by decide) (fun c_124 => ?_) (fun c_124 => ?_)
                      · skip
                        have k_124 : 10 ≤ k := (nI_leI (a := 10) (b := k) (by omega) (by omega)).mp c_124
                        refine lv_aload_n hx hb dX8_decree_148 rfl (lv_at hl 0 rfl) ?_
                        refine lv_iconst (v := 1) hx hb dX8_decree_149 (by decide) ?_
                        refine va_put (D := D) (ci := 8) (v := .int 1) (ty := .boolean) (C := RX8) (T := TX8) (N := 44) hx hb hts inX8 tyX8 tyX8_ok nmX8 hown hK hP hD hS 1 rfl rfl 17 (by decide) fl160 (fun _ h9 => h9) rfl (by decide +kernel) (rfl) (rfl) (Nat.le_of_ble_eq_true rfl) dX8_decree_150 (fun H locs hP hD hS => ?_)
                        have hP : va_P D vwCl [ar cI (mA 19) 20 hRU2, mo aM mA (nI 0) 0 td (nI nm) (nI np) 1 ln 0 (-1) (nI n) (nI (tNx fBY n q)) (kdM fBY n q) wh3 (nI (tSt fBY n q)) rd3 rn ic mcm mcp mcr, ar cI (mA 0) 300 fBY, ar cI (mA 23) 22 fWD] H := hP
                        have hD : va_D A [ar cI (mA 19) 20 hRU2, mo aM mA (nI 0) 0 td (nI nm) (nI np) 1 ln 0 (-1) (nI n) (nI (tNx fBY n q)) (kdM fBY n q) wh3 (nI (tSt fBY n q)) rd3 rn ic mcm mcp mcr, ar cI (mA 0) 300 fBY, ar cI (mA 23) 22 fWD] := hD
                        refine lv_aload_n hx hb dX8_decree_153 rfl (lv_at hl 0 rfl) ?_
                        refine lv_iload_n hx hb dX8_decree_154 rfl (lv_at hl 2 rfl) ?_
                        refine va_put (D := D) (ci := 8) (v := .int (nI my)) (ty := .int) (C := RX8) (T := TX8) (N := 44) hx hb hts inX8 tyX8 tyX8_ok nmX8 hown hK hP hD hS 1 rfl rfl 18 (by decide) fl164 (fun _ h9 => h9) rfl (by decide +kernel) (rfl) (rfl) (Nat.le_of_ble_eq_true rfl) dX8_decree_155 (fun H locs hP hD hS => ?_)
                        have hP : va_P D vwCl [ar cI (mA 19) 20 hRU2, mo aM mA (nI 0) 0 td (nI nm) (nI np) 1 (nI my) 0 (-1) (nI n) (nI (tNx fBY n q)) (kdM fBY n q) wh3 (nI (tSt fBY n q)) rd3 rn ic mcm mcp mcr, ar cI (mA 0) 300 fBY, ar cI (mA 23) 22 fWD] H := hP
                        have hD : va_D A [ar cI (mA 19) 20 hRU2, mo aM mA (nI 0) 0 td (nI nm) (nI np) 1 (nI my) 0 (-1) (nI n) (nI (tNx fBY n q)) (kdM fBY n q) wh3 (nI (tSt fBY n q)) rd3 rn ic mcm mcp mcr, ar cI (mA 0) 300 fBY, ar cI (mA 23) 22 fWD] := hD
                        refine lv_iload_n hx hb dX8_decree_158 rfl (lv_at hl 2 rfl) ?_
                        exact ret (nI my) (1, (nI my), 0, (-1), (nI n), (kdM fBY n q), wh3, (nI (tSt fBY n q)), (nI (tNx fBY n q)), rd3, 0, hRU2) _ _ _ _ dX8_decree_159 (by have ek : k = 10 := (by omega); subst ek; exact Or.inr ⟨hxn, rfl, n, _, hn9, rfl, hX _ (Reads.fin ((kdM_0 hq9).mp c_77)), rfl, rfl, rfl, rfl, rfl, fun j hj => (g1 j hj).trans (by unfold shR; rw [if_pos hj])⟩) (hP.sub [1, 2, 3, 0] rfl) (hD.sub [1, 2, 3, 0] (by decide) rfl) hS
                      · skip
                        have k_124 : ¬ 10 ≤ k := fun h9 => c_124 ((nI_leI (a := 10) (b := k) (by omega) (by omega)).mpr h9)
                        refine lv_aload_n hx hb dX8_decree_127 rfl (lv_at hl 0 rfl) ?_
                        refine va_get (D := D) (ci := 8) (v := .ref (mA 19)) (C := RX8) (T := TX8) (N := 44) hx hb hts inX8 hown hK hP 1 rfl rfl 19 (by decide) fl47 (fun _ h9 => h9) rfl dX8_decree_128 ?_
                        refine lv_iload_n hx hb dX8_decree_131 rfl (lv_at hl 3 rfl) ?_
                        refine lv_aload_n hx hb dX8_decree_132 rfl (lv_at hl 0 rfl) ?_
                        refine va_get (D := D) (ci := 8) (v := .ref (mA 19)) (C := RX8) (T := TX8) (N := 44) hx hb hts inX8 hown hK hP 1 rfl rfl 19 (by decide) fl47 (fun _ h9 => h9) rfl dX8_decree_133 ?_
                        refine lv_bipush (v := 10) hx hb dX8_decree_136 (by decide) ?_
                        refine lv_iload_n hx hb dX8_decree_138 rfl (lv_at hl 3 rfl) ?_
                        refine m_iaddN (a := 10) (b := k) hx hb dX8_decree_139 ?_
                        refine m_iald (k := (10 + k)) hx hb hK hP 0 0 rfl rfl (by omega) (by decide) dX8_decree_140 ?_
                        refine m_iast (k := k) (x := (hRU2 (10 + k))) hx hb hK hP hD hS 0 0 rfl rfl (by omega) (by decide) dX8_decree_141 (fun H locs hP hD hS => ?_)
                        have hP : va_P D vwCl [ar cI (mA 19) 20 (upd hRU2 k (hRU2 (10 + k))), mo aM mA (nI 0) 0 td (nI nm) (nI np) isd ln 0 (-1) (nI n) (nI (tNx fBY n q)) (kdM fBY n q) wh3 (nI (tSt fBY n q)) rd3 rn ic mcm mcp mcr, ar cI (mA 0) 300 fBY, ar cI (mA 23) 22 fWD] H := hP
                        have hD : va_D A [ar cI (mA 19) 20 (upd hRU2 k (hRU2 (10 + k))), mo aM mA (nI 0) 0 td (nI nm) (nI np) isd ln 0 (-1) (nI n) (nI (tNx fBY n q)) (kdM fBY n q) wh3 (nI (tSt fBY n q)) rd3 rn ic mcm mcp mcr, ar cI (mA 0) 300 fBY, ar cI (mA 23) 22 fWD] := hD
                        refine lv_iinc (v := (nI (k + 1))) (lv' := [(3, .int (nI (k + 1))), (0, .ref aM), (1, .int (nI n)), (2, .int (nI my))]) hx hb dX8_decree_142 hl (k := 3) rfl (nI_inc k 1 (by decide)) (by decide) rfl (fun ls hl => ?_)
                        refine lv_goto (tgt := 121) hx hb dX8_decree_145 (by decide) ?_
                        exact ih_121 (k + 1) (upd hRU2 k (hRU2 (10 + k))) (by omega) (by omega) (fun j hj => by by_cases e9 : j = k; subst e9; rw [pk_us]; exact g2 _ (by omega); exact (pk_un e9).trans (g1 j (by omega))) (fun j hj => (pk_un (by omega)).trans (g2 j hj)) _ _ (hP) (hD) hS ls (lv_sub hl [1, 2, 3, 0] rfl)
                  exact L_121 ((10 - 0) + 1) 0 kRU (Nat.lt_succ_self _) (by omega) (fun j hj => absurd hj (Nat.not_lt_zero j)) (fun _ _ => rfl) _ _ (hP) (hD) hS ls (lv_sub hl [1, 2, 3, 0] rfl)
                · skip
                  have h5 : ¬ tKd fBY n q = 5 := fun z => c_77 ((kdM_0 hq9).mpr z)
                  have hsn : tSt fBY n q < n := (by by_cases z : tSt fBY n q < n; exact z; exact absurd (tKd_5 z) h5)
                  refine lv_aload_n hx hb dX8_decree_80 rfl (lv_at hl 0 rfl) ?_
                  refine m_cVi (As := []) (rest := []) (wr := []) ⟨hx, hb, hml, hown, hts⟩ (c_X8_line l D cI cZ aM mA 0 0 td nm np isd ln 0 (-1) wh3 rd3 rn ic mcm mcp mcr fBY fWD kRU n q (by first | assumption | omega) (by first | assumption | omega) (by first | assumption | omega) (by first | assumption | omega) (by first | assumption | omega)) (cwV 0 hts gX8_decree_X8_line rfl rfl rfl (by decide +kernel) ⟨Nat.le_of_ble_eq_true rfl, Nat.le_of_ble_eq_true rfl⟩) hN hK hP hD hS hA [1, 2, 3, 0] [] rfl rfl (by decide) (by decide) (by decide) 0 (ci := 8) rfl rfl rfl rfl hl.1 rfl (Nat.le_of_ble_eq_true rfl) dX8_decree_81 ⟨Nat.le_of_ble_eq_true rfl, Nat.le_of_ble_eq_true rfl⟩ (fun r_81 u_81 H locs hq_81 hP hD hS => ?_)
                  obtain ⟨k2_81, w2_81, s2_81, n2_81, x2_81, f2_81, p2_81, gRU_81⟩ := u_81
                  replace hq_81 : linM fBY n kRU gRU_81 r_81 f2_81 p2_81 0 (-1) k2_81 w2_81 s2_81 n2_81 (lineF fBY n q (shR kRU)) := hq_81
                  have hP : va_P D vwCl [mo aM mA (nI 0) 0 td (nI nm) (nI np) isd ln f2_81 p2_81 (nI n) n2_81 k2_81 w2_81 s2_81 x2_81 rn ic mcm mcp mcr, ar cI (mA 0) 300 fBY, ar cI (mA 23) 22 fWD, ar cI (mA 19) 20 gRU_81] H := hP
                  have hD : va_D A [mo aM mA (nI 0) 0 td (nI nm) (nI np) isd ln f2_81 p2_81 (nI n) n2_81 k2_81 w2_81 s2_81 x2_81 rn ic mcm mcp mcr, ar cI (mA 0) 300 fBY, ar cI (mA 23) 22 fWD, ar cI (mA 19) 20 gRU_81] := hD
                  refine lv_if_ne (tgt := 89) hx hb dX8_decree_84 (by decide) (fun c_84 => ?_) (fun c_84 => ?_)
                  · skip
                    obtain ⟨ru2, q2, hlf, ef2, ep2, hsg, hkg, hk2, hs2, hn2, hw_81⟩ := linM_good hq_81 c_84
                    subst ef2
                    subst ep2
                    subst hk2
                    subst hs2
                    subst hn2
                    have hq2 := lf_good_le hq9 hlf
                    refine lv_aload_n hx hb dX8_decree_89 rfl (lv_at hl 0 rfl) ?_
                    refine va_get (D := D) (ci := 8) (v := .int (kdM fBY n q2)) (C := RX8) (T := TX8) (N := 44) hx hb hts inX8 hown hK hP 0 rfl rfl 26 (by decide) fl127 (fun _ h9 => h9) rfl dX8_decree_90 ?_
                    refine lv_iconst (v := 3) hx hb dX8_decree_93 (by decide) ?_
                    refine lv_icmp_eq (tgt := 109) hx hb dX8_decree_94 (by decide) (fun c_94 => ?_) (fun c_94 => ?_)
                    · skip
                      have hk3 := kdM_3.mp c_94
                      refine lv_iinc (v := (nI (my + 1))) (lv' := [(2, .int (nI (my + 1))), (0, .ref aM), (1, .int (nI n))]) hx hb dX8_decree_109 hl (k := 2) rfl (nI_inc my 1 (by decide)) (by decide) rfl (fun ls hl => ?_)
                      refine lv_aload_n hx hb dX8_decree_112 rfl (lv_at hl 1 rfl) ?_
                      refine m_cVv (As := []) (rest := []) (wr := [ar cI (mA 19) 20 gRU_81]) ⟨hx, hb, hml, hown, hts⟩ (c_X8_take l D cI cZ aM mA 0 0 td nm np isd ln 0 (-1) (kdM fBY n q2) w2_81 (nI (tSt fBY n q2)) x2_81 rn ic mcm mcp mcr fBY fWD n (tNx fBY n q2) (by first | assumption | omega) (tNx_le (t := fBY) hq2.2) (by first | assumption | omega)) (cwV 0 hts gX8_decree_X8_take rfl rfl rfl (by decide +kernel) ⟨Nat.le_of_ble_eq_true rfl, Nat.le_of_ble_eq_true rfl⟩) hN hK hP hD hS hA [0, 1, 2] [3] rfl rfl (by decide) (by decide) (by decide) 0 (ci := 8) rfl rfl rfl rfl hl.1 rfl (Nat.le_of_ble_eq_true rfl) dX8_decree_113 ⟨Nat.le_of_ble_eq_true rfl, Nat.le_of_ble_eq_true rfl⟩ (fun u_113 H locs hq_113 hP hD hS => ?_)
                      obtain ⟨k2_113, s2_113, n2_113, w2_113⟩ := u_113
                      replace hq_113 : k2_113 = kdM fBY n (tNx fBY n q2) ∧ s2_113 = tSt fBY n (tNx fBY n q2) ∧ n2_113 = tNx fBY n (tNx fBY n q2) ∧ mWh fBY n (tNx fBY n q2) w2_113 := hq_113
                      have hP : va_P D vwCl [ar cI (mA 19) 20 gRU_81, mo aM mA (nI 0) 0 td (nI nm) (nI np) isd ln 0 (-1) (nI n) (nI n2_113) k2_113 w2_113 (nI s2_113) x2_81 rn ic mcm mcp mcr, ar cI (mA 0) 300 fBY, ar cI (mA 23) 22 fWD] H := hP
                      have hD : va_D A [ar cI (mA 19) 20 gRU_81, mo aM mA (nI 0) 0 td (nI nm) (nI np) isd ln 0 (-1) (nI n) (nI n2_113) k2_113 w2_113 (nI s2_113) x2_81 rn ic mcm mcp mcr, ar cI (mA 0) 300 fBY, ar cI (mA 23) 22 fWD] := hD
                      obtain ⟨rfl, rfl, rfl, hw_113⟩ := hq_113
                      refine lv_goto (tgt := 73) hx hb dX8_decree_116 (by decide) ?_
                      have hgt : q < tNx fBY n q2 := Nat.lt_of_le_of_lt tSt_ge (Nat.lt_of_lt_of_le (tNx_gt hsn) (Nat.le_trans hq2.1 (Nat.le_trans tSt_ge tNx_ge)))
                      have hqn : q < n := Nat.lt_of_le_of_lt tSt_ge hsn
                      exact ih_73 (tNx fBY n q2) (my + 1) gRU_81 w2_113 x2_81 (by omega) (tNx_le (t := fBY) hq2.2) (hw_113) (fun X hx9 => hX X (Reads.next h5 hlf hk3 (by rw [← hsg]; exact hx9))) (fun j hj => (hkg j hj).trans (hkp j hj)) (by rw [hsg]; exact rulO_good hrl hlf) _ _ (hP) (hD) hS ls (lv_sub hl [1, 2, 0] rfl)
                    · skip
                      refine lv_aload_n hx hb dX8_decree_97 rfl (lv_at hl 0 rfl) ?_
                      refine lv_iconst (v := 1) hx hb dX8_decree_98 (by decide) ?_
                      refine lv_aload_n hx hb dX8_decree_99 rfl (lv_at hl 0 rfl) ?_
                      refine va_get (D := D) (ci := 8) (v := .int (nI (tSt fBY n q2))) (C := RX8) (T := TX8) (N := 44) hx hb hts inX8 hown hK hP 0 rfl rfl 28 (by decide) fl124 (fun _ h9 => h9) rfl dX8_decree_100 ?_
                      refine m_cVi (As := [.int 1, .int (nI (tSt fBY n q2))]) (rest := []) (wr := [ar cI (mA 0) 300 fBY, ar cI (mA 23) 22 fWD, ar cI (mA 19) 20 gRU_81]) ⟨hx, hb, hml, hown, hts⟩ (c_X8_wrong l D cI cZ aM mA 0 0 td nm np isd ln 0 (-1) (nI n) (nI (tNx fBY n q2)) (kdM fBY n q2) w2_81 (nI (tSt fBY n q2)) x2_81 rn ic mcm mcp mcr 1 (nI (tSt fBY n q2)) ) (cwV 2 hts gX8_decree_X8_wrong rfl rfl rfl (by decide +kernel) ⟨Nat.le_of_ble_eq_true rfl, Nat.le_of_ble_eq_true rfl⟩) hN hK hP hD hS hA [0] [1, 2, 3] rfl rfl (by decide) (by decide) (by decide) 0 (ci := 8) rfl rfl rfl rfl hl.1 rfl (Nat.le_of_ble_eq_true rfl) dX8_decree_103 ⟨Nat.le_of_ble_eq_true rfl, Nat.le_of_ble_eq_true rfl⟩ (fun r_103 u_103 H locs hq_103 hP hD hS => ?_)
                      replace hq_103 : r_103 = 0 := hq_103
                      have hP : va_P D vwCl [ar cI (mA 0) 300 fBY, ar cI (mA 23) 22 fWD, ar cI (mA 19) 20 gRU_81, mo aM mA (nI 0) 0 td (nI nm) (nI np) isd ln 1 (nI (tSt fBY n q2)) (nI n) (nI (tNx fBY n q2)) (kdM fBY n q2) w2_81 (nI (tSt fBY n q2)) x2_81 rn ic mcm mcp mcr] H := hP
                      have hD : va_D A [ar cI (mA 0) 300 fBY, ar cI (mA 23) 22 fWD, ar cI (mA 19) 20 gRU_81, mo aM mA (nI 0) 0 td (nI nm) (nI np) isd ln 1 (nI (tSt fBY n q2)) (nI n) (nI (tNx fBY n q2)) (kdM fBY n q2) w2_81 (nI (tSt fBY n q2)) x2_81 rn ic mcm mcp mcr] := hD
                      refine lv_istore_n (lv' := [(3, .int r_103), (0, .ref aM), (1, .int (nI n)), (2, .int (nI my))]) hx hb dX8_decree_106 rfl hl (by decide) rfl (fun ls hl => ?_)
                      refine lv_iconst (v := (-1)) hx hb dX8_decree_107 (by decide) ?_
                      exact ret (-1) (isd, ln, 1, (nI (tSt fBY n q2)), (nI n), (kdM fBY n q2), w2_81, (nI (tSt fBY n q2)), (nI (tNx fBY n q2)), x2_81, 0, gRU_81) _ _ _ _ dX8_decree_108 (Or.inr ⟨hxn, rfl, n, _, hn9, rfl, hX _ (Reads.semi h5 hlf (fun z => c_94 (kdM_3.mpr z))), rfl, rfl, rfl, rfl, rfl, fun j hj => (hkg j hj).trans (hkp j hj)⟩) (hP.sub [3, 0, 1, 2] rfl) (hD.sub [3, 0, 1, 2] (by decide) rfl) hS
                  · skip
                    refine lv_iconst (v := (-1)) hx hb dX8_decree_87 (by decide) ?_
                    exact ret (-1) (isd, ln, f2_81, p2_81, (nI n), k2_81, w2_81, s2_81, n2_81, x2_81, 0, gRU_81) _ _ _ _ dX8_decree_88 (by obtain ⟨w9, pl9, hlf, e1, e2, e3⟩ := linM_bad hq_81 c_84; subst e1; subst e2; exact Or.inr ⟨hxn, rfl, n, _, hn9, rfl, hX _ (Reads.bad h5 hlf), rfl, rfl, rfl, rfl, rfl, fun j hj => (e3 j hj).trans (hkp j hj)⟩) (hP) (hD) hS
            exact L_73 ((n - 0) + 1) 0 0 hRU w2_70 rd (Nat.lt_succ_self _) (by omega) (hw_70) (fun X hx9 => by rw [hsr] at hx9; exact hx9) (hh1) (by rw [hsr]; exact rulO_0) _ _ (hP) (hD) hS ls (lv_sub hl [1, 2, 0] rfl)
          · skip
            have k_46 : ¬ 20 ≤ k := fun h9 => c_46 ((nI_leI (a := 20) (b := k) (by omega) (by omega)).mpr h9)
            refine lv_aload_n hx hb dX8_decree_49 rfl (lv_at hl 0 rfl) ?_
            refine va_get (D := D) (ci := 8) (v := .ref (mA 19)) (C := RX8) (T := TX8) (N := 44) hx hb hts inX8 hown hK hP 0 rfl rfl 19 (by decide) fl47 (fun _ h9 => h9) rfl dX8_decree_50 ?_
            refine lv_iload_n hx hb dX8_decree_53 rfl (lv_at hl 2 rfl) ?_
            refine lv_iconst (v := (-1)) hx hb dX8_decree_54 (by decide) ?_
            refine m_iast (k := k) (x := (-1)) hx hb hK hP hD hS 3 0 rfl rfl (by omega) (by decide) dX8_decree_55 (fun H locs hP hD hS => ?_)
            have hP : va_P D vwCl [mo aM mA 0 0 td (nI nm) (nI np) isd ln 0 (-1) (nI n) nx kd wh pl rd rn ic mcm mcp mcr, ar cI (mA 0) 300 fBY, ar cI (mA 23) 22 fWD, ar cI (mA 19) 20 (upd hRU k (-1))] H := hP
            have hD : va_D A [mo aM mA 0 0 td (nI nm) (nI np) isd ln 0 (-1) (nI n) nx kd wh pl rd rn ic mcm mcp mcr, ar cI (mA 0) 300 fBY, ar cI (mA 23) 22 fWD, ar cI (mA 19) 20 (upd hRU k (-1))] := hD
            refine lv_iinc (v := (nI (k + 1))) (lv' := [(2, .int (nI (k + 1))), (0, .ref aM), (1, .int (nI n))]) hx hb dX8_decree_56 hl (k := 2) rfl (nI_inc k 1 (by decide)) (by decide) rfl (fun ls hl => ?_)
            refine lv_goto (tgt := 43) hx hb dX8_decree_59 (by decide) ?_
            exact ih_43 (k + 1) (upd hRU k (-1)) (by omega) (by omega) (by omega) (fun j hj => (pk_un (by omega)).trans (hh1 j hj)) (fun j h1 h2 => by by_cases e9 : j = k; subst e9; exact pk_us; exact (pk_un e9).trans (hh2 j h1 (by omega))) _ _ (hP) (hD) hS ls (lv_sub hl [1, 2, 0] rfl)
      exact L_43 ((20 - 10) + 1) 10 fRU (Nat.lt_succ_self _) (by omega) (by omega) (fun _ _ => rfl) (fun j h1 h2 => absurd h2 (Nat.not_lt_of_le h1)) _ _ (hP) (hD) hS ls (lv_sub hl [1, 2, 0] rfl)
    · skip
      refine lv_bipush (v := (-2)) hx hb dX8_decree_17 (by decide) ?_
      exact ret (-2) (isd, ln, rf, rp, sz, kd, wh, pl, nx, rd, nt, fRU) _ _ _ _ dX8_decree_19 (Or.inl ⟨by first | exact Or.inl c_6 | exact Or.inr (Int32.not_le.mp c_14), rfl, rfl, rfl, rfl, rfl, rfl, rfl⟩) (hP) (hD) hS
