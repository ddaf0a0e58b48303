/-- a DECREE: what it makes of what is left of a paper, and of its rank -/
def dLeft (cu : Nat → Int32) (sp bf lf rk dy : Int32) : Int32 :=
  if ((bf = -1 ∨ dy < bf) ∧ ¬ cu (ix rk) = -1) ∧ 0 < (if sp = -1 then lf else lf - sp) then lf - (if sp = -1 then lf else lf - sp) * cu (ix rk) / 100 else lf
def dRank (mv : Nat → Int32) (bf rk dy : Int32) : Int32 :=
  if (bf = -1 ∨ dy < bf) ∧ ¬ mv (ix rk) = -1 then mv (ix rk) else rk
/-- how much less is left, of the first papers -/
def lessS (cu : Nat → Int32) (sp bf : Int32) (lf rk dy : Nat → Int32) : Nat → Int32
  | 0 => 0
  | n + 1 => lessS cu sp bf lf rk dy n + (lf n - dLeft cu sp bf (lf n) (rk n) (dy n))
/-- the j-th byte of a number, the highest first -/
def byteOf (x : Int32) (j : Nat) : Int32 := (x.toUInt32 >>> ((nI (24 - 8 * j)).toUInt32 &&& Int32.toUInt32 31)).toInt32 &&& 255
def put4 (f : Nat → Int32) (t : Nat) (x : Int32) : Nat → Int32 := upd (upd (upd (upd f t (byteOf x 0)) (t + 1) (byteOf x 1)) (t + 1 + 1) (byteOf x 2)) (t + 1 + 1 + 1) (byteOf x 3)

abbrev r_c_J7_fill_53178 : Room := { frames := 0, cells := 0, slots := 0, locals := 0 }
set_option maxHeartbeats 4000000 in
set_option maxRecDepth 100000 in
theorem c_J7_fill_53178 (l : Launch) (D : va_G) (cI cZ : ClassId) (aA : Nat) (f : Nat → Int32) (v : Int32)  : MV l yJ7_fill_53178 wsJ7_fill_53178 r_c_J7_fill_53178 D cI cZ [.ref aA, .int v] [ar cI aA 4 f] (fun (u : (Nat → Int32)) => u = fil (fun _ => v) f 4) (fun (u : (Nat → Int32)) => [ar cI aA 4 u]) 0 0 := by
  refine MV.of (cc := cJ7_fill_53178) (maxL := 4) (by decide) rfl (Nat.le_of_ble_eq_true rfl) ?_
  intro p e s m below meth c A Q hx hb hml hown hts hN hK hA ret hP hD hS ls hl hnm
  have hown : s.vm.findClass RJ7 = some m.cls := hown
  have hP : va_P D vwCl [ar cI aA 4 f] s.heap := hP
  have hD : va_D A [ar cI aA 4 f] := hD
  have hl : lv_has ls 4 [(0, .ref aA), (1, .int v)] := hl
  refine lv_iconst (v := 0) hx hb dJ7_fill_53178_0 (by decide) ?_
  refine lv_istore_n (lv' := [(2, .int 0), (0, .ref aA), (1, .int v)]) hx hb dJ7_fill_53178_1 rfl hl (by decide) rfl (fun ls hl => ?_)
  refine lv_aload_n hx hb dJ7_fill_53178_2 rfl (lv_at hl 1 rfl) ?_
  refine va_alen (v := nI 4) hx hb hK hP 0 0 rfl rfl rfl dJ7_fill_53178_3 ?_
  refine lv_istore_n (lv' := [(3, .int (nI 4)), (2, .int 0), (0, .ref aA), (1, .int v)]) hx hb dJ7_fill_53178_4 rfl hl (by decide) rfl (fun ls hl => ?_)
  have L_5 : ∀ (n : Nat) (k : Nat) (h : Nat → Int32), (4 - k < n) → (k ≤ 4) → (h = fil (fun _ => v) f k) → ∀ (H : Heap) (locs : List Loc), va_P D vwCl [ar cI aA 4 h] H → va_D A [ar cI aA 4 h] → va_S A s.heap H locs → ∀ ls : Array Slot, lv_has ls 4 [(0, .ref aA), (1, .int v), (2, .int (nI k)), (3, .int (nI 4))] → W p l e r_c_J7_fill_53178 s m (([.ref aA, .int v] : List Value).toArray) below meth c H locs 0 0 Q (F0 m 5 ls []) := by
    intro n
    induction n with
    | zero => intro k h hfu; exact absurd hfu (Nat.not_lt_zero _)
    | succ n ih =>
      intro k h hfu hk hh H locs hP hD hS ls hl
      refine lv_iload_n hx hb dJ7_fill_53178_5 rfl (lv_at hl 2 rfl) ?_
      refine lv_iload_n hx hb dJ7_fill_53178_6 rfl (lv_at hl 3 rfl) ?_
      refine lv_icmp_ge (tgt := 20) hx hb dJ7_fill_53178_7 (by decide) (fun c_7 => ?_) (fun c_7 => ?_)
      · skip
        have k_7 : 4 ≤ k := (nI_leI (a := 4) (b := k) (by omega) (by omega)).mp c_7
        exact ret h _ _ _ _ dJ7_fill_53178_20 (by have e : k = 4 := (by omega); subst e; exact hh) (hP) (hD) hS
      · skip
        have k_7 : ¬ 4 ≤ k := fun h9 => c_7 ((nI_leI (a := 4) (b := k) (by omega) (by omega)).mpr h9)
        refine lv_aload_n hx hb dJ7_fill_53178_10 rfl (lv_at hl 0 rfl) ?_
        refine lv_iload_n hx hb dJ7_fill_53178_11 rfl (lv_at hl 2 rfl) ?_
        refine lv_iload_n hx hb dJ7_fill_53178_12 rfl (lv_at hl 1 rfl) ?_
        refine m_iast (k := k) (x := v) hx hb hK hP hD hS 0 0 rfl rfl (by omega) (by decide) dJ7_fill_53178_13 (fun H locs hP hD hS => ?_)
        have hP : va_P D vwCl [ar cI aA 4 (upd h k v)] H := hP
        have hD : va_D A [ar cI aA 4 (upd h k v)] := hD
        refine lv_iinc (v := (nI (k + 1))) (lv' := [(2, .int (nI (k + 1))), (0, .ref aA), (1, .int v), (3, .int (nI 4))]) hx hb dJ7_fill_53178_14 hl (k := 2) rfl (nI_inc k 1 (by decide)) (by decide) rfl (fun ls hl => ?_)
        refine lv_goto (tgt := 5) hx hb dJ7_fill_53178_17 (by decide) ?_
        exact ih (k + 1) (upd h k v) (by omega) (by omega) (fil_step hh rfl) _ _ (hP) (hD) hS ls (lv_sub hl [1, 2, 0, 3] rfl)
  exact L_5 ((4 - 0) + 1) 0 f (Nat.lt_succ_self _) (by omega) (fil_0.symm) _ _ (hP) (hD) hS ls (lv_sub hl [2, 3, 1, 0] rfl)
abbrev r_c_X2_empty : Room := { frames := 1, cells := 0, slots := 0, locals := 23 }
set_option maxHeartbeats 4000000 in
set_option maxRecDepth 100000 in
theorem c_X2_empty (l : Launch) (D : va_G) (cI cZ : ClassId) (aD : Nat) (aCU : Nat) (aMV : Nat) (fCU : Nat → Int32) (fMV : Nat → Int32) (sp : Int32) (bf : Int32) (ln : Int32)  : MV l yX2_empty wsX2_empty r_c_X2_empty D cI cZ [.ref aD] [ob aD 2 [.ref aCU, .ref aMV, .int sp, .int bf, .int ln], ar cI aCU 4 fCU, ar cI aMV 4 fMV] (fun (u : (Nat → Int32) × (Nat → Int32)) => u.1 = fil (fun _ => -1) fCU 4 ∧ u.2 = fil (fun _ => -1) fMV 4) (fun (u : (Nat → Int32) × (Nat → Int32)) => [ob aD 2 [.ref aCU, .ref aMV, .int (-1), .int (-1), .int 0], ar cI aCU 4 u.1, ar cI aMV 4 u.2]) 0 0 := by
  refine MV.of (cc := cX2_empty) (maxL := 1) (by decide) rfl (Nat.le_of_ble_eq_true rfl) ?_
  intro p e s m below meth c A Q hx hb hml hown hts hN hK hA ret hP hD hS ls hl hnm
  have hown : s.vm.findClass RX2 = some m.cls := hown
  have inX2 : ∀ w ∈ wsX20, w ∈ wsX2_empty := by decide +kernel
  have fl9 := hts (.fieldLink RX2 9 "AdvanceBook$Decree" "cuts" "[I") (by decide +kernel)
  have fl15 := hts (.fieldLink RX2 15 "AdvanceBook$Decree" "moves" "[I") (by decide +kernel)
  have fl27 := hts (.fieldLink RX2 27 "AdvanceBook$Decree" "spare" "I") (by decide +kernel)
  have fl31 := hts (.fieldLink RX2 31 "AdvanceBook$Decree" "before" "I") (by decide +kernel)
  have fl34 := hts (.fieldLink RX2 34 "AdvanceBook$Decree" "lines" "I") (by decide +kernel)
  have hP : va_P D vwCl [ob aD 2 [.ref aCU, .ref aMV, .int sp, .int bf, .int ln], ar cI aCU 4 fCU, ar cI aMV 4 fMV] s.heap := hP
  have hD : va_D A [ob aD 2 [.ref aCU, .ref aMV, .int sp, .int bf, .int ln], ar cI aCU 4 fCU, ar cI aMV 4 fMV] := hD
  have hl : lv_has ls 1 [(0, .ref aD)] := hl
  refine lv_aload_n hx hb dX2_empty_0 rfl (lv_at hl 0 rfl) ?_
  refine va_get (D := D) (ci := 2) (v := .ref aCU) (C := RX2) (T := TX2) (N := 5) hx hb hts inX2 hown hK hP 0 rfl rfl 0 (by decide) fl9 (fun _ h9 => h9) rfl dX2_empty_1 ?_
  refine lv_iconst (v := (-1)) hx hb dX2_empty_4 (by decide) ?_
  refine m_cSv (As := [.ref aCU, .int (-1)]) (rest := []) (wr := [ob aD 2 [.ref aCU, .ref aMV, .int sp, .int bf, .int ln], ar cI aMV 4 fMV]) ⟨hx, hb, hml, hown, hts⟩ (c_J7_fill_53178 l D cI cZ aCU fCU (-1) ) (va_cwS 2 hts gX2_empty_J7_fill_53178 rfl rfl rfl (by decide +kernel) ⟨Nat.le_of_ble_eq_true rfl, Nat.le_of_ble_eq_true rfl⟩) hN hK hP hD hS hA [1] [0, 2] rfl rfl (by decide) (by decide) (by decide) rfl hl.1 rfl (Nat.le_of_ble_eq_true rfl) dX2_empty_5 ⟨Nat.le_of_ble_eq_true rfl, Nat.le_of_ble_eq_true rfl⟩ (fun u_5 H locs hq_5 hP hD hS => ?_)
  obtain ⟨g_5, rfl⟩ : ∃ z, z = u_5 := ⟨_, rfl⟩
  have hq_5 : g_5 = fil (fun _ => (-1)) fCU 4 := hq_5
  have hP : va_P D vwCl [ob aD 2 [.ref aCU, .ref aMV, .int sp, .int bf, .int ln], ar cI aMV 4 fMV, ar cI aCU 4 g_5] H := hP
  have hD : va_D A [ob aD 2 [.ref aCU, .ref aMV, .int sp, .int bf, .int ln], ar cI aMV 4 fMV, ar cI aCU 4 g_5] := hD
  refine lv_aload_n hx hb dX2_empty_8 rfl (lv_at hl 0 rfl) ?_
  refine va_get (D := D) (ci := 2) (v := .ref aMV) (C := RX2) (T := TX2) (N := 5) hx hb hts inX2 hown hK hP 0 rfl rfl 1 (by decide) fl15 (fun _ h9 => h9) rfl dX2_empty_9 ?_
  refine lv_iconst (v := (-1)) hx hb dX2_empty_12 (by decide) ?_
  refine m_cSv (As := [.ref aMV, .int (-1)]) (rest := []) (wr := [ob aD 2 [.ref aCU, .ref aMV, .int sp, .int bf, .int ln], ar cI aCU 4 g_5]) ⟨hx, hb, hml, hown, hts⟩ (c_J7_fill_53178 l D cI cZ aMV fMV (-1) ) (va_cwS 2 hts gX2_empty_J7_fill_53178 rfl rfl rfl (by decide +kernel) ⟨Nat.le_of_ble_eq_true rfl, Nat.le_of_ble_eq_true rfl⟩) hN hK hP hD hS hA [1] [0, 2] rfl rfl (by decide) (by decide) (by decide) rfl hl.1 rfl (Nat.le_of_ble_eq_true rfl) dX2_empty_13 ⟨Nat.le_of_ble_eq_true rfl, Nat.le_of_ble_eq_true rfl⟩ (fun u_13 H locs hq_13 hP hD hS => ?_)
  obtain ⟨g_13, rfl⟩ : ∃ z, z = u_13 := ⟨_, rfl⟩
  have hq_13 : g_13 = fil (fun _ => (-1)) fMV 4 := hq_13
  have hP : va_P D vwCl [ob aD 2 [.ref aCU, .ref aMV, .int sp, .int bf, .int ln], ar cI aCU 4 g_5, ar cI aMV 4 g_13] H := hP
  have hD : va_D A [ob aD 2 [.ref aCU, .ref aMV, .int sp, .int bf, .int ln], ar cI aCU 4 g_5, ar cI aMV 4 g_13] := hD
  refine lv_aload_n hx hb dX2_empty_16 rfl (lv_at hl 0 rfl) ?_
  refine lv_iconst (v := (-1)) hx hb dX2_empty_17 (by decide) ?_
  refine va_put (D := D) (ci := 2) (v := .int (-1)) (ty := .int) (C := RX2) (T := TX2) (N := 5) hx hb hts inX2 tyX2 tyX2_ok nmX2 hown hK hP hD hS 0 rfl rfl 2 (by decide) fl27 (fun _ h9 => h9) rfl (by decide +kernel) (rfl) (rfl) (Nat.le_of_ble_eq_true rfl) dX2_empty_18 (fun H locs hP hD hS => ?_)
  have hP : va_P D vwCl [ob aD 2 [.ref aCU, .ref aMV, .int (-1), .int bf, .int ln], ar cI aCU 4 g_5, ar cI aMV 4 g_13] H := hP
  have hD : va_D A [ob aD 2 [.ref aCU, .ref aMV, .int (-1), .int bf, .int ln], ar cI aCU 4 g_5, ar cI aMV 4 g_13] := hD
  refine lv_aload_n hx hb dX2_empty_21 rfl (lv_at hl 0 rfl) ?_
  refine lv_iconst (v := (-1)) hx hb dX2_empty_22 (by decide) ?_
  refine va_put (D := D) (ci := 2) (v := .int (-1)) (ty := .int) (C := RX2) (T := TX2) (N := 5) hx hb hts inX2 tyX2 tyX2_ok nmX2 hown hK hP hD hS 0 rfl rfl 3 (by decide) fl31 (fun _ h9 => h9) rfl (by decide +kernel) (rfl) (rfl) (Nat.le_of_ble_eq_true rfl) dX2_empty_23 (fun H locs hP hD hS => ?_)
  have hP : va_P D vwCl [ob aD 2 [.ref aCU, .ref aMV, .int (-1), .int (-1), .int ln], ar cI aCU 4 g_5, ar cI aMV 4 g_13] H := hP
  have hD : va_D A [ob aD 2 [.ref aCU, .ref aMV, .int (-1), .int (-1), .int ln], ar cI aCU 4 g_5, ar cI aMV 4 g_13] := hD
  refine lv_aload_n hx hb dX2_empty_26 rfl (lv_at hl 0 rfl) ?_
  refine lv_iconst (v := 0) hx hb dX2_empty_27 (by decide) ?_
  refine va_put (D := D) (ci := 2) (v := .int 0) (ty := .int) (C := RX2) (T := TX2) (N := 5) hx hb hts inX2 tyX2 tyX2_ok nmX2 hown hK hP hD hS 0 rfl rfl 4 (by decide) fl34 (fun _ h9 => h9) rfl (by decide +kernel) (rfl) (rfl) (Nat.le_of_ble_eq_true rfl) dX2_empty_28 (fun H locs hP hD hS => ?_)
  have hP : va_P D vwCl [ob aD 2 [.ref aCU, .ref aMV, .int (-1), .int (-1), .int 0], ar cI aCU 4 g_5, ar cI aMV 4 g_13] H := hP
  have hD : va_D A [ob aD 2 [.ref aCU, .ref aMV, .int (-1), .int (-1), .int 0], ar cI aCU 4 g_5, ar cI aMV 4 g_13] := hD
  exact ret (g_5, g_13) _ _ _ _ dX2_empty_31 (⟨hq_5, hq_13⟩) (hP) (hD) hS
abbrev r_c_X2_reaches : Room := { frames := 0, cells := 0, slots := 0, locals := 0 }
set_option maxHeartbeats 4000000 in
set_option maxRecDepth 100000 in
theorem c_X2_reaches (l : Launch) (D : va_G) (cI cZ : ClassId) (aD : Nat) (aCU : Nat) (aMV : Nat) (sp : Int32) (bf : Int32) (ln : Int32) (x : Int32)  : MI l yX2_reaches wsX2_reaches r_c_X2_reaches D cI cZ [.ref aD, .int x] [ob aD 2 [.ref aCU, .ref aMV, .int sp, .int bf, .int ln]] (fun (r : Int32) (u : Unit) => r = if bf = -1 ∨ x < bf then 1 else 0) (fun (u : Unit) => [ob aD 2 [.ref aCU, .ref aMV, .int sp, .int bf, .int ln]]) 0 0 := by
  refine MI.ofZ (cc := cX2_reaches) (maxL := 2) (by decide) rfl (Nat.le_of_ble_eq_true rfl) ?_
  intro p e s m below meth c A Q hx hb hml hown hts hN hK hA ret hP hD hS ls hl
  have hown : s.vm.findClass RX2 = some m.cls := hown
  have inX2 : ∀ w ∈ wsX20, w ∈ wsX2_reaches := by decide +kernel
  have fl31 := hts (.fieldLink RX2 31 "AdvanceBook$Decree" "before" "I") (by decide +kernel)
  have hP : va_P D vwCl [ob aD 2 [.ref aCU, .ref aMV, .int sp, .int bf, .int ln]] s.heap := hP
  have hD : va_D A [ob aD 2 [.ref aCU, .ref aMV, .int sp, .int bf, .int ln]] := hD
  have hl : lv_has ls 2 [(0, .ref aD), (1, .int x)] := hl
  refine lv_aload_n hx hb dX2_reaches_0 rfl (lv_at hl 0 rfl) ?_
  refine va_get (D := D) (ci := 2) (v := .int bf) (C := RX2) (T := TX2) (N := 5) hx hb hts inX2 hown hK hP 0 rfl rfl 3 (by decide) fl31 (fun _ h9 => h9) rfl dX2_reaches_1 ?_
  refine lv_iconst (v := (-1)) hx hb dX2_reaches_4 (by decide) ?_
  refine lv_icmp_eq (tgt := 16) hx hb dX2_reaches_5 (by decide) (fun c_5 => ?_) (fun c_5 => ?_)
  · skip
    refine lv_iconst (v := 1) hx hb dX2_reaches_16 (by decide) ?_
    refine lv_goto (tgt := 21) hx hb dX2_reaches_17 (by decide) ?_
    exact ret 1 () _ _ _ _ dX2_reaches_21 (Or.inr rfl) (by grind) (hP) (hD) hS
  · skip
    refine lv_iload_n hx hb dX2_reaches_8 rfl (lv_at hl 1 rfl) ?_
    refine lv_aload_n hx hb dX2_reaches_9 rfl (lv_at hl 0 rfl) ?_
    refine va_get (D := D) (ci := 2) (v := .int bf) (C := RX2) (T := TX2) (N := 5) hx hb hts inX2 hown hK hP 0 rfl rfl 3 (by decide) fl31 (fun _ h9 => h9) rfl dX2_reaches_10 ?_
    refine lv_icmp_ge (tgt := 20) hx hb dX2_reaches_13 (by decide) (fun c_13 => ?_) (fun c_13 => ?_)
    · skip
      refine lv_iconst (v := 0) hx hb dX2_reaches_20 (by decide) ?_
      exact ret 0 () _ _ _ _ dX2_reaches_21 (Or.inl rfl) (by grind) (hP) (hD) hS
    · skip
      refine lv_iconst (v := 1) hx hb dX2_reaches_16 (by decide) ?_
      refine lv_goto (tgt := 21) hx hb dX2_reaches_17 (by decide) ?_
      exact ret 1 () _ _ _ _ dX2_reaches_21 (Or.inr rfl) (by grind) (hP) (hD) hS
abbrev r_c_X2_leftOf : Room := { frames := 1, cells := 0, slots := 0, locals := 21 }
set_option maxHeartbeats 4000000 in
set_option maxRecDepth 100000 in
theorem c_X2_leftOf (l : Launch) (D : va_G) (cI cZ : ClassId) (aD : Nat) (aCU : Nat) (aMV : Nat) (fCU : Nat → Int32) (sp : Int32) (bf : Int32) (ln : Int32) (x : Int32) (y : Int32) (z : Int32) (hy : vp_in y 4) : MI l yX2_leftOf wsX2_leftOf r_c_X2_leftOf D cI cZ [.ref aD, .int x, .int y, .int z] [ob aD 2 [.ref aCU, .ref aMV, .int sp, .int bf, .int ln], ar cI aCU 4 fCU] (fun (r : Int32) (u : Unit) => r = dLeft fCU sp bf x y z) (fun (u : Unit) => [ob aD 2 [.ref aCU, .ref aMV, .int sp, .int bf, .int ln], ar cI aCU 4 fCU]) 0 0 := by
  refine MI.of (cc := cX2_leftOf) (maxL := 5) (by decide) rfl (Nat.le_of_ble_eq_true rfl) ?_
  intro p e s m below meth c A Q hx hb hml hown hts hN hK hA ret hP hD hS ls hl
  have hown : s.vm.findClass RX2 = some m.cls := hown
  have inX2 : ∀ w ∈ wsX20, w ∈ wsX2_leftOf := by decide +kernel
  have fl9 := hts (.fieldLink RX2 9 "AdvanceBook$Decree" "cuts" "[I") (by decide +kernel)
  have fl27 := hts (.fieldLink RX2 27 "AdvanceBook$Decree" "spare" "I") (by decide +kernel)
  have hP : va_P D vwCl [ob aD 2 [.ref aCU, .ref aMV, .int sp, .int bf, .int ln], ar cI aCU 4 fCU] s.heap := hP
  have hD : va_D A [ob aD 2 [.ref aCU, .ref aMV, .int sp, .int bf, .int ln], ar cI aCU 4 fCU] := hD
  have hl : lv_has ls 5 [(0, .ref aD), (1, .int x), (2, .int y), (3, .int z)] := hl
  refine lv_aload_n hx hb dX2_leftOf_0 rfl (lv_at hl 0 rfl) ?_
  refine va_get (D := D) (ci := 2) (v := .int sp) (C := RX2) (T := TX2) (N := 5) hx hb hts inX2 hown hK hP 0 rfl rfl 2 (by decide) fl27 (fun _ h9 => h9) rfl dX2_leftOf_1 ?_
  refine lv_iconst (v := (-1)) hx hb dX2_leftOf_4 (by decide) ?_
  refine lv_icmp_ne (tgt := 12) hx hb dX2_leftOf_5 (by decide) (fun c_5 => ?_) (fun c_5 => ?_)
  · skip
    refine lv_iload_n hx hb dX2_leftOf_12 rfl (lv_at hl 1 rfl) ?_
    refine lv_aload_n hx hb dX2_leftOf_13 rfl (lv_at hl 0 rfl) ?_
    refine va_get (D := D) (ci := 2) (v := .int sp) (C := RX2) (T := TX2) (N := 5) hx hb hts inX2 hown hK hP 0 rfl rfl 2 (by decide) fl27 (fun _ h9 => h9) rfl dX2_leftOf_14 ?_
    refine lv_isub hx hb dX2_leftOf_17 ?_
    refine lv_istore (lv' := [(4, .int (x - sp)), (0, .ref aD), (1, .int x), (2, .int y), (3, .int z)]) hx hb dX2_leftOf_18 hl (by decide) rfl (fun ls hl => ?_)
    refine lv_aload_n hx hb dX2_leftOf_20 rfl (lv_at hl 1 rfl) ?_
    refine lv_iload_n hx hb dX2_leftOf_21 rfl (lv_at hl 4 rfl) ?_
    refine m_cVi (As := [.int z]) (rest := []) (wr := [ar cI aCU 4 fCU]) ⟨hx, hb, hml, hown, hts⟩ (c_X2_reaches l D cI cZ aD aCU aMV sp bf ln z ) (cwV 1 hts gX2_leftOf_X2_reaches rfl rfl rfl (by decide +kernel) ⟨Nat.le_of_ble_eq_true rfl, Nat.le_of_ble_eq_true rfl⟩) hN hK hP hD hS hA [0] [1] rfl rfl (by decide) (by decide) (by decide) 0 (ci := 2) rfl rfl rfl rfl hl.1 rfl (Nat.le_of_ble_eq_true rfl) dX2_leftOf_22 ⟨Nat.le_of_ble_eq_true rfl, Nat.le_of_ble_eq_true rfl⟩ (fun r_22 u_22 H locs hq_22 hP hD hS => ?_)
    have hq_22 : r_22 = if bf = -1 ∨ z < bf then 1 else 0 := hq_22
    have hP : va_P D vwCl [ar cI aCU 4 fCU, ob aD 2 [.ref aCU, .ref aMV, .int sp, .int bf, .int ln]] H := hP
    have hD : va_D A [ar cI aCU 4 fCU, ob aD 2 [.ref aCU, .ref aMV, .int sp, .int bf, .int ln]] := hD
    refine lv_if_eq (tgt := 43) hx hb dX2_leftOf_25 (by decide) (fun c_25 => ?_) (fun c_25 => ?_)
    · skip
      refine lv_iload_n hx hb dX2_leftOf_43 rfl (lv_at hl 2 rfl) ?_
      exact ret x () _ _ _ _ dX2_leftOf_44 (by simp only [dLeft]; grind) (hP.sub [1, 0] rfl) (hD.sub [1, 0] (by decide) rfl) hS
    · skip
      refine lv_aload_n hx hb dX2_leftOf_28 rfl (lv_at hl 1 rfl) ?_
      refine va_get (D := D) (ci := 2) (v := .ref aCU) (C := RX2) (T := TX2) (N := 5) hx hb hts inX2 hown hK hP 1 rfl rfl 0 (by decide) fl9 (fun _ h9 => h9) rfl dX2_leftOf_29 ?_
      refine lv_iload_n hx hb dX2_leftOf_32 rfl (lv_at hl 3 rfl) ?_
      refine va_iald hx hb hK hP 0 0 rfl rfl (hy) dX2_leftOf_33 ?_
      refine lv_iconst (v := (-1)) hx hb dX2_leftOf_34 (by decide) ?_
      refine lv_icmp_eq (tgt := 43) hx hb dX2_leftOf_35 (by decide) (fun c_35 => ?_) (fun c_35 => ?_)
      · skip
        refine lv_iload_n hx hb dX2_leftOf_43 rfl (lv_at hl 2 rfl) ?_
        exact ret x () _ _ _ _ dX2_leftOf_44 (by simp only [dLeft]; grind) (hP.sub [1, 0] rfl) (hD.sub [1, 0] (by decide) rfl) hS
      · skip
        refine lv_iload hx hb dX2_leftOf_38 (lv_at hl 0 rfl) ?_
        refine lv_if_gt (tgt := 45) hx hb dX2_leftOf_40 (by decide) (fun c_40 => ?_) (fun c_40 => ?_)
        · skip
          refine lv_iload_n hx hb dX2_leftOf_45 rfl (lv_at hl 2 rfl) ?_
          refine lv_iload hx hb dX2_leftOf_46 (lv_at hl 0 rfl) ?_
          refine lv_aload_n hx hb dX2_leftOf_48 rfl (lv_at hl 1 rfl) ?_
          refine va_get (D := D) (ci := 2) (v := .ref aCU) (C := RX2) (T := TX2) (N := 5) hx hb hts inX2 hown hK hP 1 rfl rfl 0 (by decide) fl9 (fun _ h9 => h9) rfl dX2_leftOf_49 ?_
          refine lv_iload_n hx hb dX2_leftOf_52 rfl (lv_at hl 3 rfl) ?_
          refine va_iald hx hb hK hP 0 0 rfl rfl (hy) dX2_leftOf_53 ?_
          refine lv_imul hx hb dX2_leftOf_54 ?_
          refine lv_bipush (v := 100) hx hb dX2_leftOf_55 (by decide) ?_
          refine lv_idiv hx hb dX2_leftOf_57 (by decide) ?_
          refine lv_isub hx hb dX2_leftOf_58 ?_
          exact ret (x - (((x - sp) * (fCU (ix y))) / 100)) () _ _ _ _ dX2_leftOf_59 (by simp only [dLeft]; grind) (hP.sub [1, 0] rfl) (hD.sub [1, 0] (by decide) rfl) hS
        · skip
          refine lv_iload_n hx hb dX2_leftOf_43 rfl (lv_at hl 2 rfl) ?_
          exact ret x () _ _ _ _ dX2_leftOf_44 (by simp only [dLeft]; grind) (hP.sub [1, 0] rfl) (hD.sub [1, 0] (by decide) rfl) hS
  · skip
    refine lv_iload_n hx hb dX2_leftOf_8 rfl (lv_at hl 1 rfl) ?_
    refine lv_goto (tgt := 18) hx hb dX2_leftOf_9 (by decide) ?_
    refine lv_istore (lv' := [(4, .int x), (0, .ref aD), (1, .int x), (2, .int y), (3, .int z)]) hx hb dX2_leftOf_18 hl (by decide) rfl (fun ls hl => ?_)
    refine lv_aload_n hx hb dX2_leftOf_20 rfl (lv_at hl 1 rfl) ?_
    refine lv_iload_n hx hb dX2_leftOf_21 rfl (lv_at hl 4 rfl) ?_
    refine m_cVi (As := [.int z]) (rest := []) (wr := [ar cI aCU 4 fCU]) ⟨hx, hb, hml, hown, hts⟩ (c_X2_reaches l D cI cZ aD aCU aMV sp bf ln z ) (cwV 1 hts gX2_leftOf_X2_reaches rfl rfl rfl (by decide +kernel) ⟨Nat.le_of_ble_eq_true rfl, Nat.le_of_ble_eq_true rfl⟩) hN hK hP hD hS hA [0] [1] rfl rfl (by decide) (by decide) (by decide) 0 (ci := 2) rfl rfl rfl rfl hl.1 rfl (Nat.le_of_ble_eq_true rfl) dX2_leftOf_22 ⟨Nat.le_of_ble_eq_true rfl, Nat.le_of_ble_eq_true rfl⟩ (fun r_22 u_22 H locs hq_22 hP hD hS => ?_)
    have hq_22 : r_22 = if bf = -1 ∨ z < bf then 1 else 0 := hq_22
    have hP : va_P D vwCl [ar cI aCU 4 fCU, ob aD 2 [.ref aCU, .ref aMV, .int sp, .int bf, .int ln]] H := hP
    have hD : va_D A [ar cI aCU 4 fCU, ob aD 2 [.ref aCU, .ref aMV, .int sp, .int bf, .int ln]] := hD
    refine lv_if_eq (tgt := 43) hx hb dX2_leftOf_25 (by decide) (fun c_25 => ?_) (fun c_25 => ?_)
    · skip
      refine lv_iload_n hx hb dX2_leftOf_43 rfl (lv_at hl 2 rfl) ?_
      exact ret x () _ _ _ _ dX2_leftOf_44 (by simp only [dLeft]; grind) (hP.sub [1, 0] rfl) (hD.sub [1, 0] (by decide) rfl) hS
    · skip
      refine lv_aload_n hx hb dX2_leftOf_28 rfl (lv_at hl 1 rfl) ?_
      refine va_get (D := D) (ci := 2) (v := .ref aCU) (C := RX2) (T := TX2) (N := 5) hx hb hts inX2 hown hK hP 1 rfl rfl 0 (by decide) fl9 (fun _ h9 => h9) rfl dX2_leftOf_29 ?_
      refine lv_iload_n hx hb dX2_leftOf_32 rfl (lv_at hl 3 rfl) ?_
      refine va_iald hx hb hK hP 0 0 rfl rfl (hy) dX2_leftOf_33 ?_
      refine lv_iconst (v := (-1)) hx hb dX2_leftOf_34 (by decide) ?_
      refine lv_icmp_eq (tgt := 43) hx hb dX2_leftOf_35 (by decide) (fun c_35 => ?_) (fun c_35 => ?_)
      · skip
        refine lv_iload_n hx hb dX2_leftOf_43 rfl (lv_at hl 2 rfl) ?_
        exact ret x () _ _ _ _ dX2_leftOf_44 (by simp only [dLeft]; grind) (hP.sub [1, 0] rfl) (hD.sub [1, 0] (by decide) rfl) hS
      · skip
        refine lv_iload hx hb dX2_leftOf_38 (lv_at hl 0 rfl) ?_
        refine lv_if_gt (tgt := 45) hx hb dX2_leftOf_40 (by decide) (fun c_40 => ?_) (fun c_40 => ?_)
        · skip
          refine lv_iload_n hx hb dX2_leftOf_45 rfl (lv_at hl 2 rfl) ?_
          refine lv_iload hx hb dX2_leftOf_46 (lv_at hl 0 rfl) ?_
          refine lv_aload_n hx hb dX2_leftOf_48 rfl (lv_at hl 1 rfl) ?_
          refine va_get (D := D) (ci := 2) (v := .ref aCU) (C := RX2) (T := TX2) (N := 5) hx hb hts inX2 hown hK hP 1 rfl rfl 0 (by decide) fl9 (fun _ h9 => h9) rfl dX2_leftOf_49 ?_
          refine lv_iload_n hx hb dX2_leftOf_52 rfl (lv_at hl 3 rfl) ?_
          refine va_iald hx hb hK hP 0 0 rfl rfl (hy) dX2_leftOf_53 ?_
          refine lv_imul hx hb dX2_leftOf_54 ?_
          refine lv_bipush (v := 100) hx hb dX2_leftOf_55 (by decide) ?_
          refine lv_idiv hx hb dX2_leftOf_57 (by decide) ?_
          refine lv_isub hx hb dX2_leftOf_58 ?_
          exact ret (x - ((x * (fCU (ix y))) / 100)) () _ _ _ _ dX2_leftOf_59 (by simp only [dLeft]; grind) (hP.sub [1, 0] rfl) (hD.sub [1, 0] (by decide) rfl) hS
        · skip
          refine lv_iload_n hx hb dX2_leftOf_43 rfl (lv_at hl 2 rfl) ?_
          exact ret x () _ _ _ _ dX2_leftOf_44 (by simp only [dLeft]; grind) (hP.sub [1, 0] rfl) (hD.sub [1, 0] (by decide) rfl) hS
abbrev r_c_X2_rankFor : Room := { frames := 1, cells := 0, slots := 0, locals := 21 }
set_option maxHeartbeats 4000000 in
set_option maxRecDepth 100000 in
theorem c_X2_rankFor (l : Launch) (D : va_G) (cI cZ : ClassId) (aD : Nat) (aCU : Nat) (aMV : Nat) (fMV : Nat → Int32) (sp : Int32) (bf : Int32) (ln : Int32) (x : Int32) (z : Int32) (hx1 : vp_in x 4) : MI l yX2_rankFor wsX2_rankFor r_c_X2_rankFor D cI cZ [.ref aD, .int x, .int z] [ob aD 2 [.ref aCU, .ref aMV, .int sp, .int bf, .int ln], ar cI aMV 4 fMV] (fun (r : Int32) (u : Unit) => r = dRank fMV bf x z) (fun (u : Unit) => [ob aD 2 [.ref aCU, .ref aMV, .int sp, .int bf, .int ln], ar cI aMV 4 fMV]) 0 0 := by
  refine MI.of (cc := cX2_rankFor) (maxL := 3) (by decide) rfl (Nat.le_of_ble_eq_true rfl) ?_
  intro p e s m below meth c A Q hx hb hml hown hts hN hK hA ret hP hD hS ls hl
  have hown : s.vm.findClass RX2 = some m.cls := hown
  have inX2 : ∀ w ∈ wsX20, w ∈ wsX2_rankFor := by decide +kernel
  have fl15 := hts (.fieldLink RX2 15 "AdvanceBook$Decree" "moves" "[I") (by decide +kernel)
  have hP : va_P D vwCl [ob aD 2 [.ref aCU, .ref aMV, .int sp, .int bf, .int ln], ar cI aMV 4 fMV] s.heap := hP
  have hD : va_D A [ob aD 2 [.ref aCU, .ref aMV, .int sp, .int bf, .int ln], ar cI aMV 4 fMV] := hD
  have hl : lv_has ls 3 [(0, .ref aD), (1, .int x), (2, .int z)] := hl
  refine lv_aload_n hx hb dX2_rankFor_0 rfl (lv_at hl 0 rfl) ?_
  refine lv_iload_n hx hb dX2_rankFor_1 rfl (lv_at hl 2 rfl) ?_
  refine m_cVi (As := [.int z]) (rest := []) (wr := [ar cI aMV 4 fMV]) ⟨hx, hb, hml, hown, hts⟩ (c_X2_reaches l D cI cZ aD aCU aMV sp bf ln z ) (cwV 1 hts gX2_rankFor_X2_reaches rfl rfl rfl (by decide +kernel) ⟨Nat.le_of_ble_eq_true rfl, Nat.le_of_ble_eq_true rfl⟩) hN hK hP hD hS hA [0] [1] rfl rfl (by decide) (by decide) (by decide) 0 (ci := 2) rfl rfl rfl rfl hl.1 rfl (Nat.le_of_ble_eq_true rfl) dX2_rankFor_2 ⟨Nat.le_of_ble_eq_true rfl, Nat.le_of_ble_eq_true rfl⟩ (fun r_2 u_2 H locs hq_2 hP hD hS => ?_)
  have hq_2 : r_2 = if bf = -1 ∨ z < bf then 1 else 0 := hq_2
  have hP : va_P D vwCl [ar cI aMV 4 fMV, ob aD 2 [.ref aCU, .ref aMV, .int sp, .int bf, .int ln]] H := hP
  have hD : va_D A [ar cI aMV 4 fMV, ob aD 2 [.ref aCU, .ref aMV, .int sp, .int bf, .int ln]] := hD
  refine lv_if_eq (tgt := 27) hx hb dX2_rankFor_5 (by decide) (fun c_5 => ?_) (fun c_5 => ?_)
  · skip
    refine lv_iload_n hx hb dX2_rankFor_27 rfl (lv_at hl 1 rfl) ?_
    exact ret x () _ _ _ _ dX2_rankFor_28 (by simp only [dRank]; grind) (hP.sub [1, 0] rfl) (hD.sub [1, 0] (by decide) rfl) hS
  · skip
    refine lv_aload_n hx hb dX2_rankFor_8 rfl (lv_at hl 0 rfl) ?_
    refine va_get (D := D) (ci := 2) (v := .ref aMV) (C := RX2) (T := TX2) (N := 5) hx hb hts inX2 hown hK hP 1 rfl rfl 1 (by decide) fl15 (fun _ h9 => h9) rfl dX2_rankFor_9 ?_
    refine lv_iload_n hx hb dX2_rankFor_12 rfl (lv_at hl 1 rfl) ?_
    refine va_iald hx hb hK hP 0 0 rfl rfl (hx1) dX2_rankFor_13 ?_
    refine lv_iconst (v := (-1)) hx hb dX2_rankFor_14 (by decide) ?_
    refine lv_icmp_eq (tgt := 27) hx hb dX2_rankFor_15 (by decide) (fun c_15 => ?_) (fun c_15 => ?_)
    · skip
      refine lv_iload_n hx hb dX2_rankFor_27 rfl (lv_at hl 1 rfl) ?_
      exact ret x () _ _ _ _ dX2_rankFor_28 (by simp only [dRank]; grind) (hP.sub [1, 0] rfl) (hD.sub [1, 0] (by decide) rfl) hS
    · skip
      refine lv_aload_n hx hb dX2_rankFor_18 rfl (lv_at hl 0 rfl) ?_
      refine va_get (D := D) (ci := 2) (v := .ref aMV) (C := RX2) (T := TX2) (N := 5) hx hb hts inX2 hown hK hP 1 rfl rfl 1 (by decide) fl15 (fun _ h9 => h9) rfl dX2_rankFor_19 ?_
      refine lv_iload_n hx hb dX2_rankFor_22 rfl (lv_at hl 1 rfl) ?_
      refine va_iald hx hb hK hP 0 0 rfl rfl (hx1) dX2_rankFor_23 ?_
      refine lv_goto (tgt := 28) hx hb dX2_rankFor_24 (by decide) ?_
      exact ret (fMV (ix x)) () _ _ _ _ dX2_rankFor_28 (by simp only [dRank]; grind) (hP.sub [1, 0] rfl) (hD.sub [1, 0] (by decide) rfl) hS
abbrev r_c_X3_obey : Room := { frames := 2, cells := 0, slots := 0, locals := 45 }
set_option maxHeartbeats 4000000 in
set_option maxRecDepth 100000 in
theorem c_X3_obey (l : Launch) (D : va_G) (cI cZ : ClassId) (aP : Nat) (aTD : Nat) (aTC : Nat) (aTK : Nat) (aTR : Nat) (aDY : Nat) (aCP : Nat) (aDB : Nat) (aCR : Nat) (aRK : Nat) (aLF : Nat) (aD : Nat) (aCU : Nat) (aMV : Nat) (fLF : Nat → Int32) (fRK : Nat → Int32) (fDY : Nat → Int32) (fCU : Nat → Int32) (fMV : Nat → Int32) (sp : Int32) (bf : Int32) (ln : Int32) (np : Nat) (hnp : np ≤ 40) (hrk : ∀ k, k < np → vp_in (fRK k) 4) : MI l yX3_obey wsX3_obey r_c_X3_obey D cI cZ [.ref aP, .ref aD] [ob aP 3 [.ref aTD, .ref aTC, .ref aTK, .ref aTR, .ref aDY, .ref aCP, .ref aDB, .ref aCR, .ref aRK, .ref aLF, .int (nI np)], ar cI aLF 40 fLF, ar cI aRK 40 fRK, ar cI aDY 40 fDY, ob aD 2 [.ref aCU, .ref aMV, .int sp, .int bf, .int ln], ar cI aCU 4 fCU, ar cI aMV 4 fMV] (fun (r : Int32) (u : (Nat → Int32) × (Nat → Int32)) => r = lessS fCU sp bf fLF fRK fDY np ∧ u.1 = fil (fun j => dLeft fCU sp bf (fLF j) (fRK j) (fDY j)) fLF np ∧ u.2 = fil (fun j => dRank fMV bf (fRK j) (fDY j)) fRK np) (fun (u : (Nat → Int32) × (Nat → Int32)) => [ob aP 3 [.ref aTD, .ref aTC, .ref aTK, .ref aTR, .ref aDY, .ref aCP, .ref aDB, .ref aCR, .ref aRK, .ref aLF, .int (nI np)], ar cI aLF 40 u.1, ar cI aRK 40 u.2, ar cI aDY 40 fDY, ob aD 2 [.ref aCU, .ref aMV, .int sp, .int bf, .int ln], ar cI aCU 4 fCU, ar cI aMV 4 fMV]) 0 0 := by
  refine MI.of (cc := cX3_obey) (maxL := 5) (by decide) rfl (Nat.le_of_ble_eq_true rfl) ?_
  intro p e s m below meth c A Q hx hb hml hown hts hN hK hA ret hP hD hS ls hl
  have hown : s.vm.findClass RX3 = some m.cls := hown
  have inX3 : ∀ w ∈ wsX30, w ∈ wsX3_obey := by decide +kernel
  have fl24 := hts (.fieldLink RX3 24 "AdvanceBook$Papers" "days" "[I") (by decide +kernel)
  have fl37 := hts (.fieldLink RX3 37 "AdvanceBook$Papers" "ranks" "[I") (by decide +kernel)
  have fl40 := hts (.fieldLink RX3 40 "AdvanceBook$Papers" "lefts" "[I") (by decide +kernel)
  have fl43 := hts (.fieldLink RX3 43 "AdvanceBook$Papers" "size" "I") (by decide +kernel)
  have hP : va_P D vwCl [ob aP 3 [.ref aTD, .ref aTC, .ref aTK, .ref aTR, .ref aDY, .ref aCP, .ref aDB, .ref aCR, .ref aRK, .ref aLF, .int (nI np)], ar cI aLF 40 fLF, ar cI aRK 40 fRK, ar cI aDY 40 fDY, ob aD 2 [.ref aCU, .ref aMV, .int sp, .int bf, .int ln], ar cI aCU 4 fCU, ar cI aMV 4 fMV] s.heap := hP
  have hD : va_D A [ob aP 3 [.ref aTD, .ref aTC, .ref aTK, .ref aTR, .ref aDY, .ref aCP, .ref aDB, .ref aCR, .ref aRK, .ref aLF, .int (nI np)], ar cI aLF 40 fLF, ar cI aRK 40 fRK, ar cI aDY 40 fDY, ob aD 2 [.ref aCU, .ref aMV, .int sp, .int bf, .int ln], ar cI aCU 4 fCU, ar cI aMV 4 fMV] := hD
  have hl : lv_has ls 5 [(0, .ref aP), (1, .ref aD)] := hl
  refine lv_iconst (v := 0) hx hb dX3_obey_0 (by decide) ?_
  refine lv_istore_n (lv' := [(2, .int 0), (0, .ref aP), (1, .ref aD)]) hx hb dX3_obey_1 rfl hl (by decide) rfl (fun ls hl => ?_)
  refine lv_iconst (v := 0) hx hb dX3_obey_2 (by decide) ?_
  refine lv_istore_n (lv' := [(3, .int 0), (2, .int 0), (0, .ref aP), (1, .ref aD)]) hx hb dX3_obey_3 rfl hl (by decide) rfl (fun ls hl => ?_)
  have L_4 : ∀ (n : Nat) (k : Nat) (sm : Int32) (hLF : Nat → Int32) (hRK : Nat → Int32), (np - k < n) → (k ≤ np) → (sm = lessS fCU sp bf fLF fRK fDY k) → (hLF = fil (fun j => dLeft fCU sp bf (fLF j) (fRK j) (fDY j)) fLF k) → (hRK = fil (fun j => dRank fMV bf (fRK j) (fDY j)) fRK k) → ∀ (H : Heap) (locs : List Loc), va_P D vwCl [ob aP 3 [.ref aTD, .ref aTC, .ref aTK, .ref aTR, .ref aDY, .ref aCP, .ref aDB, .ref aCR, .ref aRK, .ref aLF, .int (nI np)], ar cI aLF 40 hLF, ar cI aRK 40 hRK, ar cI aDY 40 fDY, ob aD 2 [.ref aCU, .ref aMV, .int sp, .int bf, .int ln], ar cI aCU 4 fCU, ar cI aMV 4 fMV] H → va_D A [ob aP 3 [.ref aTD, .ref aTC, .ref aTK, .ref aTR, .ref aDY, .ref aCP, .ref aDB, .ref aCR, .ref aRK, .ref aLF, .int (nI np)], ar cI aLF 40 hLF, ar cI aRK 40 hRK, ar cI aDY 40 fDY, ob aD 2 [.ref aCU, .ref aMV, .int sp, .int bf, .int ln], ar cI aCU 4 fCU, ar cI aMV 4 fMV] → va_S A s.heap H locs → ∀ ls : Array Slot, lv_has ls 5 [(0, .ref aP), (1, .ref aD), (2, .int sm), (3, .int (nI k))] → W p l e r_c_X3_obey s m (([.ref aP, .ref aD] : List Value).toArray) below meth c H locs 0 0 Q (F0 m 4 ls []) := by
    intro n
    induction n with
    | zero => intro k sm hLF hRK hfu; exact absurd hfu (Nat.not_lt_zero _)
    | succ n ih =>
      intro k sm hLF hRK hfu hk hs h1 h2 H locs hP hD hS ls hl
      have e1 := fil_at h1
      have e2 := fil_at h2
      refine lv_iload_n hx hb dX3_obey_4 rfl (lv_at hl 3 rfl) ?_
      refine lv_aload_n hx hb dX3_obey_5 rfl (lv_at hl 0 rfl) ?_
      refine va_get (D := D) (ci := 3) (v := .int (nI np)) (C := RX3) (T := TX3) (N := 11) hx hb hts inX3 hown hK hP 0 rfl rfl 10 (by decide) fl43 (fun _ h9 => h9) rfl dX3_obey_6 ?_
      refine lv_icmp_ge (tgt := 84) hx hb dX3_obey_9 (by decide) (fun c_9 => ?_) (fun c_9 => ?_)
      · skip
        have k_9 : np ≤ k := (nI_leI (a := np) (b := k) (by omega) (by omega)).mp c_9
        refine lv_iload_n hx hb dX3_obey_84 rfl (lv_at hl 2 rfl) ?_
        exact ret sm (hLF, hRK) _ _ _ _ dX3_obey_85 (by have e : k = np := (by omega); subst e; exact ⟨hs, h1, h2⟩) (hP) (hD) hS
      · skip
        have k_9 : ¬ np ≤ k := fun h9 => c_9 ((nI_leI (a := np) (b := k) (by omega) (by omega)).mpr h9)
        refine lv_aload_n hx hb dX3_obey_12 rfl (lv_at hl 1 rfl) ?_
        refine lv_aload_n hx hb dX3_obey_13 rfl (lv_at hl 0 rfl) ?_
        refine va_get (D := D) (ci := 3) (v := .ref aLF) (C := RX3) (T := TX3) (N := 11) hx hb hts inX3 hown hK hP 0 rfl rfl 9 (by decide) fl40 (fun _ h9 => h9) rfl dX3_obey_14 ?_
        refine lv_iload_n hx hb dX3_obey_17 rfl (lv_at hl 3 rfl) ?_
        refine m_iald (k := k) hx hb hK hP 1 0 rfl rfl (by omega) (by decide) dX3_obey_18 ?_
        refine lv_aload_n hx hb dX3_obey_19 rfl (lv_at hl 0 rfl) ?_
        refine va_get (D := D) (ci := 3) (v := .ref aRK) (C := RX3) (T := TX3) (N := 11) hx hb hts inX3 hown hK hP 0 rfl rfl 8 (by decide) fl37 (fun _ h9 => h9) rfl dX3_obey_20 ?_
        refine lv_iload_n hx hb dX3_obey_23 rfl (lv_at hl 3 rfl) ?_
        refine m_iald (k := k) hx hb hK hP 2 0 rfl rfl (by omega) (by decide) dX3_obey_24 ?_
        refine lv_aload_n hx hb dX3_obey_25 rfl (lv_at hl 0 rfl) ?_
        refine va_get (D := D) (ci := 3) (v := .ref aDY) (C := RX3) (T := TX3) (N := 11) hx hb hts inX3 hown hK hP 0 rfl rfl 4 (by decide) fl24 (fun _ h9 => h9) rfl dX3_obey_26 ?_
        refine lv_iload_n hx hb dX3_obey_29 rfl (lv_at hl 3 rfl) ?_
        refine m_iald (k := k) hx hb hK hP 3 0 rfl rfl (by omega) (by decide) dX3_obey_30 ?_
        have hv_31 : vp_in (hRK k) 4 := (by rw [e2]; exact hrk k (by omega))
        refine m_cVi (As := [.int (hLF k), .int (hRK k), .int (fDY k)]) (rest := []) (wr := [ob aP 3 [.ref aTD, .ref aTC, .ref aTK, .ref aTR, .ref aDY, .ref aCP, .ref aDB, .ref aCR, .ref aRK, .ref aLF, .int (nI np)], ar cI aLF 40 hLF, ar cI aRK 40 hRK, ar cI aDY 40 fDY, ar cI aMV 4 fMV]) ⟨hx, hb, hml, hown, hts⟩ (c_X2_leftOf l D cI cZ aD aCU aMV fCU sp bf ln (hLF k) (hRK k) (fDY k) (hv_31)) (cwV 3 hts gX3_obey_X2_leftOf rfl rfl rfl (by decide +kernel) ⟨Nat.le_of_ble_eq_true rfl, Nat.le_of_ble_eq_true rfl⟩) hN hK hP hD hS hA [4, 5] [0, 1, 2, 3, 6] rfl rfl (by decide) (by decide) (by decide) 0 (ci := 2) rfl rfl rfl rfl hl.1 rfl (Nat.le_of_ble_eq_true rfl) dX3_obey_31 ⟨Nat.le_of_ble_eq_true rfl, Nat.le_of_ble_eq_true rfl⟩ (fun r_31 u_31 H locs hq_31 hP hD hS => ?_)
        have hq_31 : r_31 = dLeft fCU sp bf (hLF k) (hRK k) (fDY k) := hq_31
        have hP : va_P D vwCl [ob aP 3 [.ref aTD, .ref aTC, .ref aTK, .ref aTR, .ref aDY, .ref aCP, .ref aDB, .ref aCR, .ref aRK, .ref aLF, .int (nI np)], ar cI aLF 40 hLF, ar cI aRK 40 hRK, ar cI aDY 40 fDY, ar cI aMV 4 fMV, ob aD 2 [.ref aCU, .ref aMV, .int sp, .int bf, .int ln], ar cI aCU 4 fCU] H := hP
        have hD : va_D A [ob aP 3 [.ref aTD, .ref aTC, .ref aTK, .ref aTR, .ref aDY, .ref aCP, .ref aDB, .ref aCR, .ref aRK, .ref aLF, .int (nI np)], ar cI aLF 40 hLF, ar cI aRK 40 hRK, ar cI aDY 40 fDY, ar cI aMV 4 fMV, ob aD 2 [.ref aCU, .ref aMV, .int sp, .int bf, .int ln], ar cI aCU 4 fCU] := hD
        refine lv_istore (lv' := [(4, .int r_31), (0, .ref aP), (1, .ref aD), (2, .int sm), (3, .int (nI k))]) hx hb dX3_obey_34 hl (by decide) rfl (fun ls hl => ?_)
        refine lv_iload_n hx hb dX3_obey_36 rfl (lv_at hl 3 rfl) ?_
        refine lv_aload_n hx hb dX3_obey_37 rfl (lv_at hl 1 rfl) ?_
        refine va_get (D := D) (ci := 3) (v := .ref aLF) (C := RX3) (T := TX3) (N := 11) hx hb hts inX3 hown hK hP 0 rfl rfl 9 (by decide) fl40 (fun _ h9 => h9) rfl dX3_obey_38 ?_
        refine lv_iload_n hx hb dX3_obey_41 rfl (lv_at hl 4 rfl) ?_
        refine m_iald (k := k) hx hb hK hP 1 0 rfl rfl (by omega) (by decide) dX3_obey_42 ?_
        refine lv_iload hx hb dX3_obey_43 (lv_at hl 0 rfl) ?_
        refine lv_isub hx hb dX3_obey_45 ?_
        refine lv_iadd hx hb dX3_obey_46 ?_
        refine lv_istore_n (lv' := [(2, .int (sm + ((hLF k) - r_31))), (4, .int r_31), (0, .ref aP), (1, .ref aD), (3, .int (nI k))]) hx hb dX3_obey_47 rfl hl (by decide) rfl (fun ls hl => ?_)
        refine lv_aload_n hx hb dX3_obey_48 rfl (lv_at hl 2 rfl) ?_
        refine va_get (D := D) (ci := 3) (v := .ref aLF) (C := RX3) (T := TX3) (N := 11) hx hb hts inX3 hown hK hP 0 rfl rfl 9 (by decide) fl40 (fun _ h9 => h9) rfl dX3_obey_49 ?_
        refine lv_iload_n hx hb dX3_obey_52 rfl (lv_at hl 4 rfl) ?_
        refine lv_iload hx hb dX3_obey_53 (lv_at hl 1 rfl) ?_
        refine m_iast (k := k) (x := r_31) hx hb hK hP hD hS 1 0 rfl rfl (by omega) (by decide) dX3_obey_55 (fun H locs hP hD hS => ?_)
        have hP : va_P D vwCl [ob aP 3 [.ref aTD, .ref aTC, .ref aTK, .ref aTR, .ref aDY, .ref aCP, .ref aDB, .ref aCR, .ref aRK, .ref aLF, .int (nI np)], ar cI aLF 40 (upd hLF k r_31), ar cI aRK 40 hRK, ar cI aDY 40 fDY, ar cI aMV 4 fMV, ob aD 2 [.ref aCU, .ref aMV, .int sp, .int bf, .int ln], ar cI aCU 4 fCU] H := hP
        have hD : va_D A [ob aP 3 [.ref aTD, .ref aTC, .ref aTK, .ref aTR, .ref aDY, .ref aCP, .ref aDB, .ref aCR, .ref aRK, .ref aLF, .int (nI np)], ar cI aLF 40 (upd hLF k r_31), ar cI aRK 40 hRK, ar cI aDY 40 fDY, ar cI aMV 4 fMV, ob aD 2 [.ref aCU, .ref aMV, .int sp, .int bf, .int ln], ar cI aCU 4 fCU] := hD
        refine lv_aload_n hx hb dX3_obey_56 rfl (lv_at hl 2 rfl) ?_
        refine va_get (D := D) (ci := 3) (v := .ref aRK) (C := RX3) (T := TX3) (N := 11) hx hb hts inX3 hown hK hP 0 rfl rfl 8 (by decide) fl37 (fun _ h9 => h9) rfl dX3_obey_57 ?_
        refine lv_iload_n hx hb dX3_obey_60 rfl (lv_at hl 4 rfl) ?_
        refine lv_aload_n hx hb dX3_obey_61 rfl (lv_at hl 3 rfl) ?_
        refine lv_aload_n hx hb dX3_obey_62 rfl (lv_at hl 2 rfl) ?_
        refine va_get (D := D) (ci := 3) (v := .ref aRK) (C := RX3) (T := TX3) (N := 11) hx hb hts inX3 hown hK hP 0 rfl rfl 8 (by decide) fl37 (fun _ h9 => h9) rfl dX3_obey_63 ?_
        refine lv_iload_n hx hb dX3_obey_66 rfl (lv_at hl 4 rfl) ?_
        refine m_iald (k := k) hx hb hK hP 2 0 rfl rfl (by omega) (by decide) dX3_obey_67 ?_
        refine lv_aload_n hx hb dX3_obey_68 rfl (lv_at hl 2 rfl) ?_
        refine va_get (D := D) (ci := 3) (v := .ref aDY) (C := RX3) (T := TX3) (N := 11) hx hb hts inX3 hown hK hP 0 rfl rfl 4 (by decide) fl24 (fun _ h9 => h9) rfl dX3_obey_69 ?_
        refine lv_iload_n hx hb dX3_obey_72 rfl (lv_at hl 4 rfl) ?_
        refine m_iald (k := k) hx hb hK hP 3 0 rfl rfl (by omega) (by decide) dX3_obey_73 ?_
        refine m_cVi (As := [.int (hRK k), .int (fDY k)]) (rest := [.int (nI k), .ref aRK]) (wr := [ob aP 3 [.ref aTD, .ref aTC, .ref aTK, .ref aTR, .ref aDY, .ref aCP, .ref aDB, .ref aCR, .ref aRK, .ref aLF, .int (nI np)], ar cI aLF 40 (upd hLF k r_31), ar cI aRK 40 hRK, ar cI aDY 40 fDY, ar cI aCU 4 fCU]) ⟨hx, hb, hml, hown, hts⟩ (c_X2_rankFor l D cI cZ aD aCU aMV fMV sp bf ln (hRK k) (fDY k) (hv_31)) (cwV 2 hts gX3_obey_X2_rankFor rfl rfl rfl (by decide +kernel) ⟨Nat.le_of_ble_eq_true rfl, Nat.le_of_ble_eq_true rfl⟩) hN hK hP hD hS hA [5, 4] [0, 1, 2, 3, 6] rfl rfl (by decide) (by decide) (by decide) 0 (ci := 2) rfl rfl rfl rfl hl.1 rfl (Nat.le_of_ble_eq_true rfl) dX3_obey_74 ⟨Nat.le_of_ble_eq_true rfl, Nat.le_of_ble_eq_true rfl⟩ (fun r_74 u_74 H locs hq_74 hP hD hS => ?_)
        have hq_74 : r_74 = dRank fMV bf (hRK k) (fDY k) := hq_74
        have hP : va_P D vwCl [ob aP 3 [.ref aTD, .ref aTC, .ref aTK, .ref aTR, .ref aDY, .ref aCP, .ref aDB, .ref aCR, .ref aRK, .ref aLF, .int (nI np)], ar cI aLF 40 (upd hLF k r_31), ar cI aRK 40 hRK, ar cI aDY 40 fDY, ar cI aCU 4 fCU, ob aD 2 [.ref aCU, .ref aMV, .int sp, .int bf, .int ln], ar cI aMV 4 fMV] H := hP
        have hD : va_D A [ob aP 3 [.ref aTD, .ref aTC, .ref aTK, .ref aTR, .ref aDY, .ref aCP, .ref aDB, .ref aCR, .ref aRK, .ref aLF, .int (nI np)], ar cI aLF 40 (upd hLF k r_31), ar cI aRK 40 hRK, ar cI aDY 40 fDY, ar cI aCU 4 fCU, ob aD 2 [.ref aCU, .ref aMV, .int sp, .int bf, .int ln], ar cI aMV 4 fMV] := hD
        refine m_iast (k := k) (x := r_74) hx hb hK hP hD hS 2 0 rfl rfl (by omega) (by decide) dX3_obey_77 (fun H locs hP hD hS => ?_)
        have hP : va_P D vwCl [ob aP 3 [.ref aTD, .ref aTC, .ref aTK, .ref aTR, .ref aDY, .ref aCP, .ref aDB, .ref aCR, .ref aRK, .ref aLF, .int (nI np)], ar cI aLF 40 (upd hLF k r_31), ar cI aRK 40 (upd hRK k r_74), ar cI aDY 40 fDY, ar cI aCU 4 fCU, ob aD 2 [.ref aCU, .ref aMV, .int sp, .int bf, .int ln], ar cI aMV 4 fMV] H := hP
        have hD : va_D A [ob aP 3 [.ref aTD, .ref aTC, .ref aTK, .ref aTR, .ref aDY, .ref aCP, .ref aDB, .ref aCR, .ref aRK, .ref aLF, .int (nI np)], ar cI aLF 40 (upd hLF k r_31), ar cI aRK 40 (upd hRK k r_74), ar cI aDY 40 fDY, ar cI aCU 4 fCU, ob aD 2 [.ref aCU, .ref aMV, .int sp, .int bf, .int ln], ar cI aMV 4 fMV] := hD
        refine lv_iinc (v := (nI (k + 1))) (lv' := [(3, .int (nI (k + 1))), (2, .int (sm + ((hLF k) - r_31))), (4, .int r_31), (0, .ref aP), (1, .ref aD)]) hx hb dX3_obey_78 hl (k := 4) rfl (nI_inc k 1 (by decide)) (by decide) rfl (fun ls hl => ?_)
        refine lv_goto (tgt := 4) hx hb dX3_obey_81 (by decide) ?_
        exact ih (k + 1) (sm + ((hLF k) - r_31)) (upd hLF k r_31) (upd hRK k r_74) (by omega) (by omega) (by rw [hs, hq_31, e1, e2]; rfl) (fil_step h1 (by rw [hq_31, e1, e2])) (fil_step h2 (by rw [hq_74, e2])) _ _ (hP.sub [0, 1, 2, 3, 5, 4, 6] rfl) (hD.sub [0, 1, 2, 3, 5, 4, 6] (by decide) rfl) hS ls (lv_sub hl [3, 4, 1, 0] rfl)
  exact L_4 ((np - 0) + 1) 0 0 fLF fRK (Nat.lt_succ_self _) (by omega) (rfl) (fil_0.symm) (fil_0.symm) _ _ (hP) (hD) hS ls (lv_sub hl [2, 3, 1, 0] rfl)
abbrev r_c_X5_append : Room := { frames := 0, cells := 0, slots := 0, locals := 0 }
set_option maxHeartbeats 4000000 in
set_option maxRecDepth 100000 in
theorem c_X5_append (l : Launch) (D : va_G) (cI cZ : ClassId) (aTA : Nat) (aBY : Nat) (fBY : Nat → Int32) (nt : Nat) (x : Int32) (hnt : nt + 4 ≤ 300) : MV l yX5_append wsX5_append r_c_X5_append D cI cZ [.ref aTA, .int x] [ob aTA 5 [.ref aBY, .int (nI nt)], ar cI aBY 300 fBY] (fun (u : (Nat → Int32)) => u = put4 fBY nt x) (fun (u : (Nat → Int32)) => [ob aTA 5 [.ref aBY, .int (nI (nt + 1 + 1 + 1 + 1))], ar cI aBY 300 u]) 0 0 := by
  refine MV.of (cc := cX5_append) (maxL := 3) (by decide) rfl (Nat.le_of_ble_eq_true rfl) ?_
  intro p e s m below meth c A Q hx hb hml hown hts hN hK hA ret hP hD hS ls hl hnm
  have hown : s.vm.findClass RX5 = some m.cls := hown
  have inX5 : ∀ w ∈ wsX50, w ∈ wsX5_append := by decide +kernel
  have fl9 := hts (.fieldLink RX5 9 "AdvanceBook$Tape" "bytes" "[I") (by decide +kernel)
  have fl15 := hts (.fieldLink RX5 15 "AdvanceBook$Tape" "length" "I") (by decide +kernel)
  have hP : va_P D vwCl [ob aTA 5 [.ref aBY, .int (nI nt)], ar cI aBY 300 fBY] s.heap := hP
  have hD : va_D A [ob aTA 5 [.ref aBY, .int (nI nt)], ar cI aBY 300 fBY] := hD
  have hl : lv_has ls 3 [(0, .ref aTA), (1, .int x)] := hl
  refine lv_bipush (v := 24) hx hb dX5_append_0 (by decide) ?_
  refine lv_istore_n (lv' := [(2, .int 24), (0, .ref aTA), (1, .int x)]) hx hb dX5_append_2 rfl hl (by decide) rfl (fun ls hl => ?_)
  refine lv_iload_n hx hb dX5_append_3 rfl (lv_at hl 0 rfl) ?_
  refine lv_if_lt (tgt := 49) hx hb dX5_append_4 (by decide) (fun c_4 => ?_) (fun c_4 => ?_)
  · skip
    exact absurd c_4 (by decide)
  · skip
    refine lv_aload_n hx hb dX5_append_7 rfl (lv_at hl 1 rfl) ?_
    refine va_get (D := D) (ci := 5) (v := .int (nI nt)) (C := RX5) (T := TX5) (N := 2) hx hb hts inX5 hown hK hP 0 rfl rfl 1 (by decide) fl15 (fun _ h9 => h9) rfl dX5_append_8 ?_
    refine lv_sipush (v := 300) hx hb dX5_append_11 (by decide) ?_
    refine lv_icmp_ge (tgt := 49) hx hb dX5_append_14 (by decide) (fun c_14 => ?_) (fun c_14 => ?_)
    · skip
      have k_14 : 300 ≤ nt := (nI_leI (a := 300) (b := nt) (by omega) (by omega)).mp c_14
      exact absurd k_14 (by omega)
    · skip
      have k_14 : ¬ 300 ≤ nt := fun h9 => c_14 ((nI_leI (a := 300) (b := nt) (by omega) (by omega)).mpr h9)
      refine lv_aload_n hx hb dX5_append_17 rfl (lv_at hl 1 rfl) ?_
      refine va_get (D := D) (ci := 5) (v := .ref aBY) (C := RX5) (T := TX5) (N := 2) hx hb hts inX5 hown hK hP 0 rfl rfl 0 (by decide) fl9 (fun _ h9 => h9) rfl dX5_append_18 ?_
      refine lv_aload_n hx hb dX5_append_21 rfl (lv_at hl 1 rfl) ?_
      refine va_get (D := D) (ci := 5) (v := .int (nI nt)) (C := RX5) (T := TX5) (N := 2) hx hb hts inX5 hown hK hP 0 rfl rfl 1 (by decide) fl15 (fun _ h9 => h9) rfl dX5_append_22 ?_
      refine lv_iload_n hx hb dX5_append_25 rfl (lv_at hl 2 rfl) ?_
      refine lv_iload_n hx hb dX5_append_26 rfl (lv_at hl 0 rfl) ?_
      refine lv_iushr (v := ((x).toUInt32 >>> ((24 : Int32).toUInt32 &&& Int32.toUInt32 31)).toInt32) hx hb dX5_append_27 rfl ?_
      refine lv_sipush (v := 255) hx hb dX5_append_28 (by decide) ?_
      refine lv_iand hx hb dX5_append_31 ?_
      refine m_iast (k := nt) (x := ((((x).toUInt32 >>> ((24 : Int32).toUInt32 &&& Int32.toUInt32 31)).toInt32) &&& 255)) hx hb hK hP hD hS 1 0 rfl rfl (by omega) (by decide) dX5_append_32 (fun H locs hP hD hS => ?_)
      have hP : va_P D vwCl [ob aTA 5 [.ref aBY, .int (nI nt)], ar cI aBY 300 (upd fBY nt ((((x).toUInt32 >>> ((24 : Int32).toUInt32 &&& Int32.toUInt32 31)).toInt32) &&& 255))] H := hP
      have hD : va_D A [ob aTA 5 [.ref aBY, .int (nI nt)], ar cI aBY 300 (upd fBY nt ((((x).toUInt32 >>> ((24 : Int32).toUInt32 &&& Int32.toUInt32 31)).toInt32) &&& 255))] := hD
      refine lv_aload_n hx hb dX5_append_33 rfl (lv_at hl 1 rfl) ?_
      refine lv_dup hx hb dX5_append_34 rfl ?_
      refine va_get (D := D) (ci := 5) (v := .int (nI nt)) (C := RX5) (T := TX5) (N := 2) hx hb hts inX5 hown hK hP 0 rfl rfl 1 (by decide) fl15 (fun _ h9 => h9) rfl dX5_append_35 ?_
      refine lv_iconst (v := 1) hx hb dX5_append_38 (by decide) ?_
      refine m_iaddN (a := nt) (b := 1) hx hb dX5_append_39 ?_
      refine va_put (D := D) (ci := 5) (v := .int (nI (nt + 1))) (ty := .int) (C := RX5) (T := TX5) (N := 2) hx hb hts inX5 tyX5 tyX5_ok nmX5 hown hK hP hD hS 0 rfl rfl 1 (by decide) fl15 (fun _ h9 => h9) rfl (by decide +kernel) (rfl) (rfl) (Nat.le_of_ble_eq_true rfl) dX5_append_40 (fun H locs hP hD hS => ?_)
      have hP : va_P D vwCl [ob aTA 5 [.ref aBY, .int (nI (nt + 1))], ar cI aBY 300 (upd fBY nt ((((x).toUInt32 >>> ((24 : Int32).toUInt32 &&& Int32.toUInt32 31)).toInt32) &&& 255))] H := hP
      have hD : va_D A [ob aTA 5 [.ref aBY, .int (nI (nt + 1))], ar cI aBY 300 (upd fBY nt ((((x).toUInt32 >>> ((24 : Int32).toUInt32 &&& Int32.toUInt32 31)).toInt32) &&& 255))] := hD
      refine lv_iinc (v := 16) (lv' := [(2, .int 16), (0, .ref aTA), (1, .int x)]) hx hb dX5_append_43 hl (k := 0) rfl (by decide) (by decide) rfl (fun ls hl => ?_)
      refine lv_goto (tgt := 3) hx hb dX5_append_46 (by decide) ?_
      refine lv_iload_n hx hb dX5_append_3 rfl (lv_at hl 0 rfl) ?_
      refine lv_if_lt (tgt := 49) hx hb dX5_append_4 (by decide) (fun c_4 => ?_) (fun c_4 => ?_)
      · skip
        exact absurd c_4 (by decide)
      · skip
        refine lv_aload_n hx hb dX5_append_7 rfl (lv_at hl 1 rfl) ?_
        refine va_get (D := D) (ci := 5) (v := .int (nI (nt + 1))) (C := RX5) (T := TX5) (N := 2) hx hb hts inX5 hown hK hP 0 rfl rfl 1 (by decide) fl15 (fun _ h9 => h9) rfl dX5_append_8 ?_
        refine lv_sipush (v := 300) hx hb dX5_append_11 (by decide) ?_
        refine lv_icmp_ge (tgt := 49) hx hb dX5_append_14 (by decide) (fun c_14 => ?_) (fun c_14 => ?_)
        · skip
          have k_14 : 300 ≤ (nt + 1) := (nI_leI (a := 300) (b := (nt + 1)) (by omega) (by omega)).mp c_14
          exact absurd k_14 (by omega)
        · skip
          have k_14 : ¬ 300 ≤ (nt + 1) := fun h9 => c_14 ((nI_leI (a := 300) (b := (nt + 1)) (by omega) (by omega)).mpr h9)
          refine lv_aload_n hx hb dX5_append_17 rfl (lv_at hl 1 rfl) ?_
          refine va_get (D := D) (ci := 5) (v := .ref aBY) (C := RX5) (T := TX5) (N := 2) hx hb hts inX5 hown hK hP 0 rfl rfl 0 (by decide) fl9 (fun _ h9 => h9) rfl dX5_append_18 ?_
          refine lv_aload_n hx hb dX5_append_21 rfl (lv_at hl 1 rfl) ?_
          refine va_get (D := D) (ci := 5) (v := .int (nI (nt + 1))) (C := RX5) (T := TX5) (N := 2) hx hb hts inX5 hown hK hP 0 rfl rfl 1 (by decide) fl15 (fun _ h9 => h9) rfl dX5_append_22 ?_
          refine lv_iload_n hx hb dX5_append_25 rfl (lv_at hl 2 rfl) ?_
          refine lv_iload_n hx hb dX5_append_26 rfl (lv_at hl 0 rfl) ?_
          refine lv_iushr (v := ((x).toUInt32 >>> ((16 : Int32).toUInt32 &&& Int32.toUInt32 31)).toInt32) hx hb dX5_append_27 rfl ?_
          refine lv_sipush (v := 255) hx hb dX5_append_28 (by decide) ?_
          refine lv_iand hx hb dX5_append_31 ?_
          refine m_iast (k := (nt + 1)) (x := ((((x).toUInt32 >>> ((16 : Int32).toUInt32 &&& Int32.toUInt32 31)).toInt32) &&& 255)) hx hb hK hP hD hS 1 0 rfl rfl (by omega) (by decide) dX5_append_32 (fun H locs hP hD hS => ?_)
          have hP : va_P D vwCl [ob aTA 5 [.ref aBY, .int (nI (nt + 1))], ar cI aBY 300 (upd (upd fBY nt ((((x).toUInt32 >>> ((24 : Int32).toUInt32 &&& Int32.toUInt32 31)).toInt32) &&& 255)) (nt + 1) ((((x).toUInt32 >>> ((16 : Int32).toUInt32 &&& Int32.toUInt32 31)).toInt32) &&& 255))] H := hP
          have hD : va_D A [ob aTA 5 [.ref aBY, .int (nI (nt + 1))], ar cI aBY 300 (upd (upd fBY nt ((((x).toUInt32 >>> ((24 : Int32).toUInt32 &&& Int32.toUInt32 31)).toInt32) &&& 255)) (nt + 1) ((((x).toUInt32 >>> ((16 : Int32).toUInt32 &&& Int32.toUInt32 31)).toInt32) &&& 255))] := hD
          refine lv_aload_n hx hb dX5_append_33 rfl (lv_at hl 1 rfl) ?_
          refine lv_dup hx hb dX5_append_34 rfl ?_
          refine va_get (D := D) (ci := 5) (v := .int (nI (nt + 1))) (C := RX5) (T := TX5) (N := 2) hx hb hts inX5 hown hK hP 0 rfl rfl 1 (by decide) fl15 (fun _ h9 => h9) rfl dX5_append_35 ?_
          refine lv_iconst (v := 1) hx hb dX5_append_38 (by decide) ?_
          refine m_iaddN (a := (nt + 1)) (b := 1) hx hb dX5_append_39 ?_
          refine va_put (D := D) (ci := 5) (v := .int (nI ((nt + 1) + 1))) (ty := .int) (C := RX5) (T := TX5) (N := 2) hx hb hts inX5 tyX5 tyX5_ok nmX5 hown hK hP hD hS 0 rfl rfl 1 (by decide) fl15 (fun _ h9 => h9) rfl (by decide +kernel) (rfl) (rfl) (Nat.le_of_ble_eq_true rfl) dX5_append_40 (fun H locs hP hD hS => ?_)
          have hP : va_P D vwCl [ob aTA 5 [.ref aBY, .int (nI ((nt + 1) + 1))], ar cI aBY 300 (upd (upd fBY nt ((((x).toUInt32 >>> ((24 : Int32).toUInt32 &&& Int32.toUInt32 31)).toInt32) &&& 255)) (nt + 1) ((((x).toUInt32 >>> ((16 : Int32).toUInt32 &&& Int32.toUInt32 31)).toInt32) &&& 255))] H := hP
          have hD : va_D A [ob aTA 5 [.ref aBY, .int (nI ((nt + 1) + 1))], ar cI aBY 300 (upd (upd fBY nt ((((x).toUInt32 >>> ((24 : Int32).toUInt32 &&& Int32.toUInt32 31)).toInt32) &&& 255)) (nt + 1) ((((x).toUInt32 >>> ((16 : Int32).toUInt32 &&& Int32.toUInt32 31)).toInt32) &&& 255))] := hD
          refine lv_iinc (v := 8) (lv' := [(2, .int 8), (0, .ref aTA), (1, .int x)]) hx hb dX5_append_43 hl (k := 0) rfl (by decide) (by decide) rfl (fun ls hl => ?_)
          refine lv_goto (tgt := 3) hx hb dX5_append_46 (by decide) ?_
          refine lv_iload_n hx hb dX5_append_3 rfl (lv_at hl 0 rfl) ?_
          refine lv_if_lt (tgt := 49) hx hb dX5_append_4 (by decide) (fun c_4 => ?_) (fun c_4 => ?_)
          · skip
            exact absurd c_4 (by decide)
          · skip
            refine lv_aload_n hx hb dX5_append_7 rfl (lv_at hl 1 rfl) ?_
            refine va_get (D := D) (ci := 5) (v := .int (nI ((nt + 1) + 1))) (C := RX5) (T := TX5) (N := 2) hx hb hts inX5 hown hK hP 0 rfl rfl 1 (by decide) fl15 (fun _ h9 => h9) rfl dX5_append_8 ?_
            refine lv_sipush (v := 300) hx hb dX5_append_11 (by decide) ?_
            refine lv_icmp_ge (tgt := 49) hx hb dX5_append_14 (by decide) (fun c_14 => ?_) (fun c_14 => ?_)
            · skip
              have k_14 : 300 ≤ ((nt + 1) + 1) := (nI_leI (a := 300) (b := ((nt + 1) + 1)) (by omega) (by omega)).mp c_14
              exact absurd k_14 (by omega)
            · skip
              have k_14 : ¬ 300 ≤ ((nt + 1) + 1) := fun h9 => c_14 ((nI_leI (a := 300) (b := ((nt + 1) + 1)) (by omega) (by omega)).mpr h9)
              refine lv_aload_n hx hb dX5_append_17 rfl (lv_at hl 1 rfl) ?_
              refine va_get (D := D) (ci := 5) (v := .ref aBY) (C := RX5) (T := TX5) (N := 2) hx hb hts inX5 hown hK hP 0 rfl rfl 0 (by decide) fl9 (fun _ h9 => h9) rfl dX5_append_18 ?_
              refine lv_aload_n hx hb dX5_append_21 rfl (lv_at hl 1 rfl) ?_
              refine va_get (D := D) (ci := 5) (v := .int (nI ((nt + 1) + 1))) (C := RX5) (T := TX5) (N := 2) hx hb hts inX5 hown hK hP 0 rfl rfl 1 (by decide) fl15 (fun _ h9 => h9) rfl dX5_append_22 ?_
              refine lv_iload_n hx hb dX5_append_25 rfl (lv_at hl 2 rfl) ?_
              refine lv_iload_n hx hb dX5_append_26 rfl (lv_at hl 0 rfl) ?_
              refine lv_iushr (v := ((x).toUInt32 >>> ((8 : Int32).toUInt32 &&& Int32.toUInt32 31)).toInt32) hx hb dX5_append_27 rfl ?_
              refine lv_sipush (v := 255) hx hb dX5_append_28 (by decide) ?_
              refine lv_iand hx hb dX5_append_31 ?_
              refine m_iast (k := ((nt + 1) + 1)) (x := ((((x).toUInt32 >>> ((8 : Int32).toUInt32 &&& Int32.toUInt32 31)).toInt32) &&& 255)) hx hb hK hP hD hS 1 0 rfl rfl (by omega) (by decide) dX5_append_32 (fun H locs hP hD hS => ?_)
              have hP : va_P D vwCl [ob aTA 5 [.ref aBY, .int (nI ((nt + 1) + 1))], ar cI aBY 300 (upd (upd (upd fBY nt ((((x).toUInt32 >>> ((24 : Int32).toUInt32 &&& Int32.toUInt32 31)).toInt32) &&& 255)) (nt + 1) ((((x).toUInt32 >>> ((16 : Int32).toUInt32 &&& Int32.toUInt32 31)).toInt32) &&& 255)) ((nt + 1) + 1) ((((x).toUInt32 >>> ((8 : Int32).toUInt32 &&& Int32.toUInt32 31)).toInt32) &&& 255))] H := hP
              have hD : va_D A [ob aTA 5 [.ref aBY, .int (nI ((nt + 1) + 1))], ar cI aBY 300 (upd (upd (upd fBY nt ((((x).toUInt32 >>> ((24 : Int32).toUInt32 &&& Int32.toUInt32 31)).toInt32) &&& 255)) (nt + 1) ((((x).toUInt32 >>> ((16 : Int32).toUInt32 &&& Int32.toUInt32 31)).toInt32) &&& 255)) ((nt + 1) + 1) ((((x).toUInt32 >>> ((8 : Int32).toUInt32 &&& Int32.toUInt32 31)).toInt32) &&& 255))] := hD
              refine lv_aload_n hx hb dX5_append_33 rfl (lv_at hl 1 rfl) ?_
              refine lv_dup hx hb dX5_append_34 rfl ?_
              refine va_get (D := D) (ci := 5) (v := .int (nI ((nt + 1) + 1))) (C := RX5) (T := TX5) (N := 2) hx hb hts inX5 hown hK hP 0 rfl rfl 1 (by decide) fl15 (fun _ h9 => h9) rfl dX5_append_35 ?_
              refine lv_iconst (v := 1) hx hb dX5_append_38 (by decide) ?_
              refine m_iaddN (a := ((nt + 1) + 1)) (b := 1) hx hb dX5_append_39 ?_
              refine va_put (D := D) (ci := 5) (v := .int (nI (((nt + 1) + 1) + 1))) (ty := .int) (C := RX5) (T := TX5) (N := 2) hx hb hts inX5 tyX5 tyX5_ok nmX5 hown hK hP hD hS 0 rfl rfl 1 (by decide) fl15 (fun _ h9 => h9) rfl (by decide +kernel) (rfl) (rfl) (Nat.le_of_ble_eq_true rfl) dX5_append_40 (fun H locs hP hD hS => ?_)
              have hP : va_P D vwCl [ob aTA 5 [.ref aBY, .int (nI (((nt + 1) + 1) + 1))], ar cI aBY 300 (upd (upd (upd fBY nt ((((x).toUInt32 >>> ((24 : Int32).toUInt32 &&& Int32.toUInt32 31)).toInt32) &&& 255)) (nt + 1) ((((x).toUInt32 >>> ((16 : Int32).toUInt32 &&& Int32.toUInt32 31)).toInt32) &&& 255)) ((nt + 1) + 1) ((((x).toUInt32 >>> ((8 : Int32).toUInt32 &&& Int32.toUInt32 31)).toInt32) &&& 255))] H := hP
              have hD : va_D A [ob aTA 5 [.ref aBY, .int (nI (((nt + 1) + 1) + 1))], ar cI aBY 300 (upd (upd (upd fBY nt ((((x).toUInt32 >>> ((24 : Int32).toUInt32 &&& Int32.toUInt32 31)).toInt32) &&& 255)) (nt + 1) ((((x).toUInt32 >>> ((16 : Int32).toUInt32 &&& Int32.toUInt32 31)).toInt32) &&& 255)) ((nt + 1) + 1) ((((x).toUInt32 >>> ((8 : Int32).toUInt32 &&& Int32.toUInt32 31)).toInt32) &&& 255))] := hD
              refine lv_iinc (v := 0) (lv' := [(2, .int 0), (0, .ref aTA), (1, .int x)]) hx hb dX5_append_43 hl (k := 0) rfl (by decide) (by decide) rfl (fun ls hl => ?_)
              refine lv_goto (tgt := 3) hx hb dX5_append_46 (by decide) ?_
              refine lv_iload_n hx hb dX5_append_3 rfl (lv_at hl 0 rfl) ?_
              refine lv_if_lt (tgt := 49) hx hb dX5_append_4 (by decide) (fun c_4 => ?_) (fun c_4 => ?_)
              · skip
                exact absurd c_4 (by decide)
              · skip
                refine lv_aload_n hx hb dX5_append_7 rfl (lv_at hl 1 rfl) ?_
                refine va_get (D := D) (ci := 5) (v := .int (nI (((nt + 1) + 1) + 1))) (C := RX5) (T := TX5) (N := 2) hx hb hts inX5 hown hK hP 0 rfl rfl 1 (by decide) fl15 (fun _ h9 => h9) rfl dX5_append_8 ?_
                refine lv_sipush (v := 300) hx hb dX5_append_11 (by decide) ?_
                refine lv_icmp_ge (tgt := 49) hx hb dX5_append_14 (by decide) (fun c_14 => ?_) (fun c_14 => ?_)
                · skip
                  have k_14 : 300 ≤ (((nt + 1) + 1) + 1) := (nI_leI (a := 300) (b := (((nt + 1) + 1) + 1)) (by omega) (by omega)).mp c_14
                  exact absurd k_14 (by omega)
                · skip
                  have k_14 : ¬ 300 ≤ (((nt + 1) + 1) + 1) := fun h9 => c_14 ((nI_leI (a := 300) (b := (((nt + 1) + 1) + 1)) (by omega) (by omega)).mpr h9)
                  refine lv_aload_n hx hb dX5_append_17 rfl (lv_at hl 1 rfl) ?_
                  refine va_get (D := D) (ci := 5) (v := .ref aBY) (C := RX5) (T := TX5) (N := 2) hx hb hts inX5 hown hK hP 0 rfl rfl 0 (by decide) fl9 (fun _ h9 => h9) rfl dX5_append_18 ?_
                  refine lv_aload_n hx hb dX5_append_21 rfl (lv_at hl 1 rfl) ?_
                  refine va_get (D := D) (ci := 5) (v := .int (nI (((nt + 1) + 1) + 1))) (C := RX5) (T := TX5) (N := 2) hx hb hts inX5 hown hK hP 0 rfl rfl 1 (by decide) fl15 (fun _ h9 => h9) rfl dX5_append_22 ?_
                  refine lv_iload_n hx hb dX5_append_25 rfl (lv_at hl 2 rfl) ?_
                  refine lv_iload_n hx hb dX5_append_26 rfl (lv_at hl 0 rfl) ?_
                  refine lv_iushr (v := ((x).toUInt32 >>> ((0 : Int32).toUInt32 &&& Int32.toUInt32 31)).toInt32) hx hb dX5_append_27 rfl ?_
                  refine lv_sipush (v := 255) hx hb dX5_append_28 (by decide) ?_
                  refine lv_iand hx hb dX5_append_31 ?_
                  refine m_iast (k := (((nt + 1) + 1) + 1)) (x := ((((x).toUInt32 >>> ((0 : Int32).toUInt32 &&& Int32.toUInt32 31)).toInt32) &&& 255)) hx hb hK hP hD hS 1 0 rfl rfl (by omega) (by decide) dX5_append_32 (fun H locs hP hD hS => ?_)
                  have hP : va_P D vwCl [ob aTA 5 [.ref aBY, .int (nI (((nt + 1) + 1) + 1))], ar cI aBY 300 (upd (upd (upd (upd fBY nt ((((x).toUInt32 >>> ((24 : Int32).toUInt32 &&& Int32.toUInt32 31)).toInt32) &&& 255)) (nt + 1) ((((x).toUInt32 >>> ((16 : Int32).toUInt32 &&& Int32.toUInt32 31)).toInt32) &&& 255)) ((nt + 1) + 1) ((((x).toUInt32 >>> ((8 : Int32).toUInt32 &&& Int32.toUInt32 31)).toInt32) &&& 255)) (((nt + 1) + 1) + 1) ((((x).toUInt32 >>> ((0 : Int32).toUInt32 &&& Int32.toUInt32 31)).toInt32) &&& 255))] H := hP
                  have hD : va_D A [ob aTA 5 [.ref aBY, .int (nI (((nt + 1) + 1) + 1))], ar cI aBY 300 (upd (upd (upd (upd fBY nt ((((x).toUInt32 >>> ((24 : Int32).toUInt32 &&& Int32.toUInt32 31)).toInt32) &&& 255)) (nt + 1) ((((x).toUInt32 >>> ((16 : Int32).toUInt32 &&& Int32.toUInt32 31)).toInt32) &&& 255)) ((nt + 1) + 1) ((((x).toUInt32 >>> ((8 : Int32).toUInt32 &&& Int32.toUInt32 31)).toInt32) &&& 255)) (((nt + 1) + 1) + 1) ((((x).toUInt32 >>> ((0 : Int32).toUInt32 &&& Int32.toUInt32 31)).toInt32) &&& 255))] := hD
                  refine lv_aload_n hx hb dX5_append_33 rfl (lv_at hl 1 rfl) ?_
                  refine lv_dup hx hb dX5_append_34 rfl ?_
                  refine va_get (D := D) (ci := 5) (v := .int (nI (((nt + 1) + 1) + 1))) (C := RX5) (T := TX5) (N := 2) hx hb hts inX5 hown hK hP 0 rfl rfl 1 (by decide) fl15 (fun _ h9 => h9) rfl dX5_append_35 ?_
                  refine lv_iconst (v := 1) hx hb dX5_append_38 (by decide) ?_
                  refine m_iaddN (a := (((nt + 1) + 1) + 1)) (b := 1) hx hb dX5_append_39 ?_
                  refine va_put (D := D) (ci := 5) (v := .int (nI ((((nt + 1) + 1) + 1) + 1))) (ty := .int) (C := RX5) (T := TX5) (N := 2) hx hb hts inX5 tyX5 tyX5_ok nmX5 hown hK hP hD hS 0 rfl rfl 1 (by decide) fl15 (fun _ h9 => h9) rfl (by decide +kernel) (rfl) (rfl) (Nat.le_of_ble_eq_true rfl) dX5_append_40 (fun H locs hP hD hS => ?_)
                  have hP : va_P D vwCl [ob aTA 5 [.ref aBY, .int (nI ((((nt + 1) + 1) + 1) + 1))], ar cI aBY 300 (upd (upd (upd (upd fBY nt ((((x).toUInt32 >>> ((24 : Int32).toUInt32 &&& Int32.toUInt32 31)).toInt32) &&& 255)) (nt + 1) ((((x).toUInt32 >>> ((16 : Int32).toUInt32 &&& Int32.toUInt32 31)).toInt32) &&& 255)) ((nt + 1) + 1) ((((x).toUInt32 >>> ((8 : Int32).toUInt32 &&& Int32.toUInt32 31)).toInt32) &&& 255)) (((nt + 1) + 1) + 1) ((((x).toUInt32 >>> ((0 : Int32).toUInt32 &&& Int32.toUInt32 31)).toInt32) &&& 255))] H := hP
                  have hD : va_D A [ob aTA 5 [.ref aBY, .int (nI ((((nt + 1) + 1) + 1) + 1))], ar cI aBY 300 (upd (upd (upd (upd fBY nt ((((x).toUInt32 >>> ((24 : Int32).toUInt32 &&& Int32.toUInt32 31)).toInt32) &&& 255)) (nt + 1) ((((x).toUInt32 >>> ((16 : Int32).toUInt32 &&& Int32.toUInt32 31)).toInt32) &&& 255)) ((nt + 1) + 1) ((((x).toUInt32 >>> ((8 : Int32).toUInt32 &&& Int32.toUInt32 31)).toInt32) &&& 255)) (((nt + 1) + 1) + 1) ((((x).toUInt32 >>> ((0 : Int32).toUInt32 &&& Int32.toUInt32 31)).toInt32) &&& 255))] := hD
                  refine lv_iinc (v := (-8)) (lv' := [(2, .int (-8)), (0, .ref aTA), (1, .int x)]) hx hb dX5_append_43 hl (k := 0) rfl (by decide) (by decide) rfl (fun ls hl => ?_)
                  refine lv_goto (tgt := 3) hx hb dX5_append_46 (by decide) ?_
                  refine lv_iload_n hx hb dX5_append_3 rfl (lv_at hl 0 rfl) ?_
                  refine lv_if_lt (tgt := 49) hx hb dX5_append_4 (by decide) (fun c_4 => ?_) (fun c_4 => ?_)
                  · skip
                    exact ret (upd (upd (upd (upd fBY nt ((((x).toUInt32 >>> ((24 : Int32).toUInt32 &&& Int32.toUInt32 31)).toInt32) &&& 255)) (nt + 1) ((((x).toUInt32 >>> ((16 : Int32).toUInt32 &&& Int32.toUInt32 31)).toInt32) &&& 255)) ((nt + 1) + 1) ((((x).toUInt32 >>> ((8 : Int32).toUInt32 &&& Int32.toUInt32 31)).toInt32) &&& 255)) (((nt + 1) + 1) + 1) ((((x).toUInt32 >>> ((0 : Int32).toUInt32 &&& Int32.toUInt32 31)).toInt32) &&& 255)) _ _ _ _ dX5_append_49 (rfl) (hP) (hD) hS
                  · skip
                    exact absurd c_4 (by decide)
