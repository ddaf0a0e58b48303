/-- the k-th bit of v, and how many of the lowest n are set -/
def bt (v k : Nat) : Nat := v / 2 ^ k % 2
def cntB (v : Nat) : Nat → Nat
  | 0 => 0
  | n + 1 => cntB v n + bt v n
theorem bt_le (v k : Nat) : bt v k ≤ 1 := by unfold bt; omega
theorem cntB_le (v : Nat) : ∀ n, cntB v n ≤ n
  | 0 => Nat.le_refl _
  | n + 1 => by have h1 := cntB_le v n; have h2 := bt_le v n; unfold cntB; omega
abbrev ush (x y : Int32) : Int32 := (x.toUInt32 >>> (y.toUInt32 &&& Int32.toUInt32 31)).toInt32
theorem ush_s : ∀ k, k < 32 → (((nI k).toUInt32 &&& Int32.toUInt32 31).toBitVec % 32).toNat = k := by decide +kernel
theorem ush_nat {v k : Nat} (hv : v < 2 ^ 32) (hk : k < 32) : ush (nI v) (nI k) = nI (v / 2 ^ k) := pk_ushrN hv (nI k) k (ush_s k hk)
theorem bit_u {v k : Nat} (hv : v < 2 ^ 32) (hk : k < 32) : ush (nI v) (nI k) &&& 1 = nI (bt v k) := by
  rw [ush_nat hv hk]
  have h := pk_andN (n := v / 2 ^ k) (Nat.lt_of_le_of_lt (Nat.div_le_self _ _) hv) (m := 1) 1 (by decide)
  rw [h]; rfl
def bcS (x : Int32) : Int32 :=
  let y1 := x - (ush x 1 &&& 1431655765)
  let y2 := (y1 &&& 858993459) + (ush y1 2 &&& 858993459)
  let y3 := (y2 + ush y2 4) &&& 252645135
  let y4 := y3 + ush y3 8
  let y5 := y4 + ush y4 16
  y5 &&& 63
theorem bc_ok : ∀ v, v < 1024 → bcS (nI v) = nI (cntB v 10) := by decide +kernel
theorem div_pow_eq0 {v n : Nat} (h : v < 2 ^ n) : v / 2 ^ n = 0 := Nat.div_eq_of_lt h
theorem lt_of_div_eq0 {v n : Nat} (h : v / 2 ^ n = 0) : v < 2 ^ n := by
  rcases Nat.lt_or_ge v (2 ^ n) with q | q
  · exact q
  · have := Nat.div_pos q (Nat.two_pow_pos n); omega
def shareS (f : Nat → Int32) (v : Nat) (p : Int32) : Nat → Int32 := fun j => if bt v j = 1 then f j + p else f j
theorem nI32_inj {a b : Nat} (ha : a < 2 ^ 32) (hb : b < 2 ^ 32) (h : nI a = nI b) : a = b := by
  have h1 := congrArg (fun z : Int32 => z.toBitVec.toNat) h
  simpa [pk_tn ha, pk_tn hb] using h1
theorem nI32_0 {a : Nat} (ha : a < 2 ^ 32) (h : nI a = 0) : a = 0 := nI32_inj ha (by decide) h

abbrev r_c_X6_hasMan : Room := { frames := 0, cells := 0, slots := 0, locals := 0 }
set_option maxHeartbeats 4000000 in
set_option maxRecDepth 100000 in
theorem c_X6_hasMan (l : Launch) (D : va_G) (cI cZ : ClassId) (aT : Nat) (aPU : Nat) (aP : Nat) (nm : Nat) (td : Int32) (x : Int32)  : MI l yX6_hasMan wsX6_hasMan r_c_X6_hasMan D cI cZ [.ref aT, .int x] [ob aT 6 [.ref aPU, .ref aP, .int (nI nm), .int td]] (fun (r : Int32) (u : Unit) => r = if 0 ≤ x ∧ x < nI nm then 1 else 0) (fun (u : Unit) => [ob aT 6 [.ref aPU, .ref aP, .int (nI nm), .int td]]) 0 0 := by
  refine MI.ofZ (cc := cX6_hasMan) (maxL := 2) (by decide) rfl (Nat.le_of_ble_eq_true rfl) ?_
  intro p e s m below meth c A Q hx hb hml hown hts hN hK hA ret hP hD hS ls hl
  have hown : s.vm.findClass RX6 = some m.cls := hown
  have inX6 : ∀ w ∈ wsX60, w ∈ wsX6_hasMan := by decide +kernel
  have fl22 := hts (.fieldLink RX6 22 "AdvanceBook$Town" "men" "I") (by decide +kernel)
  have hP : va_P D vwCl [ob aT 6 [.ref aPU, .ref aP, .int (nI nm), .int td]] s.heap := hP
  have hD : va_D A [ob aT 6 [.ref aPU, .ref aP, .int (nI nm), .int td]] := hD
  have hl : lv_has ls 2 [(0, .ref aT), (1, .int x)] := hl
  refine lv_iload_n hx hb dX6_hasMan_0 rfl (lv_at hl 1 rfl) ?_
  refine lv_if_lt (tgt := 16) hx hb dX6_hasMan_1 (by decide) (fun c_1 => ?_) (fun c_1 => ?_)
  · skip
    refine lv_iconst (v := 0) hx hb dX6_hasMan_16 (by decide) ?_
    exact ret 0 () _ _ _ _ dX6_hasMan_17 (Or.inl rfl) (by grind) (hP) (hD) hS
  · skip
    refine lv_iload_n hx hb dX6_hasMan_4 rfl (lv_at hl 1 rfl) ?_
    refine lv_aload_n hx hb dX6_hasMan_5 rfl (lv_at hl 0 rfl) ?_
    refine va_get (D := D) (ci := 6) (v := .int (nI nm)) (C := RX6) (T := TX6) (N := 4) hx hb hts inX6 hown hK hP 0 rfl rfl 2 (by decide) fl22 (fun _ h9 => h9) rfl dX6_hasMan_6 ?_
    refine lv_icmp_ge (tgt := 16) hx hb dX6_hasMan_9 (by decide) (fun c_9 => ?_) (fun c_9 => ?_)
    · skip
      refine lv_iconst (v := 0) hx hb dX6_hasMan_16 (by decide) ?_
      exact ret 0 () _ _ _ _ dX6_hasMan_17 (Or.inl rfl) (by grind) (hP) (hD) hS
    · skip
      refine lv_iconst (v := 1) hx hb dX6_hasMan_12 (by decide) ?_
      refine lv_goto (tgt := 17) hx hb dX6_hasMan_13 (by decide) ?_
      exact ret 1 () _ _ _ _ dX6_hasMan_17 (Or.inr rfl) (by grind) (hP) (hD) hS
abbrev r_c_X6_allPurses : Room := { frames := 0, cells := 0, slots := 0, locals := 0 }
set_option maxHeartbeats 4000000 in
set_option maxRecDepth 100000 in
theorem c_X6_allPurses (l : Launch) (D : va_G) (cI cZ : ClassId) (aT : Nat) (aPU : Nat) (aP : Nat) (fPU : Nat → Int32) (nm : Nat) (td : Int32) (hnm : nm ≤ 10) : MI l yX6_allPurses wsX6_allPurses r_c_X6_allPurses D cI cZ [.ref aT] [ob aT 6 [.ref aPU, .ref aP, .int (nI nm), .int td], ar cI aPU 10 fPU] (fun (r : Int32) (u : Unit) => r = sumS fPU nm) (fun (u : Unit) => [ob aT 6 [.ref aPU, .ref aP, .int (nI nm), .int td], ar cI aPU 10 fPU]) 0 0 := by
  refine MI.of (cc := cX6_allPurses) (maxL := 3) (by decide) rfl (Nat.le_of_ble_eq_true rfl) ?_
  intro p e s m below meth c A Q hx hb hml hown hts hN hK hA ret hP hD hS ls hl
  have hown : s.vm.findClass RX6 = some m.cls := hown
  have inX6 : ∀ w ∈ wsX60, w ∈ wsX6_allPurses := by decide +kernel
  have fl9 := hts (.fieldLink RX6 9 "AdvanceBook$Town" "purses" "[I") (by decide +kernel)
  have fl22 := hts (.fieldLink RX6 22 "AdvanceBook$Town" "men" "I") (by decide +kernel)
  have hP : va_P D vwCl [ob aT 6 [.ref aPU, .ref aP, .int (nI nm), .int td], ar cI aPU 10 fPU] s.heap := hP
  have hD : va_D A [ob aT 6 [.ref aPU, .ref aP, .int (nI nm), .int td], ar cI aPU 10 fPU] := hD
  have hl : lv_has ls 3 [(0, .ref aT)] := hl
  refine lv_iconst (v := 0) hx hb dX6_allPurses_0 (by decide) ?_
  refine lv_istore_n (lv' := [(1, .int 0), (0, .ref aT)]) hx hb dX6_allPurses_1 rfl hl (by decide) rfl (fun ls hl => ?_)
  refine lv_iconst (v := 0) hx hb dX6_allPurses_2 (by decide) ?_
  refine lv_istore_n (lv' := [(2, .int 0), (1, .int 0), (0, .ref aT)]) hx hb dX6_allPurses_3 rfl hl (by decide) rfl (fun ls hl => ?_)
  have L_4 : ∀ (n : Nat) (k : Nat) (sm : Int32), (nm - k < n) → (k ≤ nm) → (sm = sumS fPU k) → ∀ (H : Heap) (locs : List Loc), va_P D vwCl [ob aT 6 [.ref aPU, .ref aP, .int (nI nm), .int td], ar cI aPU 10 fPU] H → va_D A [ob aT 6 [.ref aPU, .ref aP, .int (nI nm), .int td], ar cI aPU 10 fPU] → va_S A s.heap H locs → ∀ ls : Array Slot, lv_has ls 3 [(0, .ref aT), (1, .int sm), (2, .int (nI k))] → W p l e r_c_X6_allPurses s m (([.ref aT] : List Value).toArray) below meth c H locs 0 0 Q (F0 m 4 ls []) := by
    intro n
    induction n with
    | zero => intro k sm hfu; exact absurd hfu (Nat.not_lt_zero _)
    | succ n ih =>
      intro k sm hfu hk hs H locs hP hD hS ls hl
      refine lv_iload_n hx hb dX6_allPurses_4 rfl (lv_at hl 2 rfl) ?_
      refine lv_aload_n hx hb dX6_allPurses_5 rfl (lv_at hl 0 rfl) ?_
      refine va_get (D := D) (ci := 6) (v := .int (nI nm)) (C := RX6) (T := TX6) (N := 4) hx hb hts inX6 hown hK hP 0 rfl rfl 2 (by decide) fl22 (fun _ h9 => h9) rfl dX6_allPurses_6 ?_
      refine lv_icmp_ge (tgt := 27) hx hb dX6_allPurses_9 (by decide) (fun c_9 => ?_) (fun c_9 => ?_)
      · skip
        have k_9 : nm ≤ k := (nI_leI (a := nm) (b := k) (by omega) (by omega)).mp c_9
        refine lv_iload_n hx hb dX6_allPurses_27 rfl (lv_at hl 1 rfl) ?_
        exact ret sm () _ _ _ _ dX6_allPurses_28 (by have e : k = nm := (by omega); subst e; exact hs) (hP) (hD) hS
      · skip
        have k_9 : ¬ nm ≤ k := fun h9 => c_9 ((nI_leI (a := nm) (b := k) (by omega) (by omega)).mpr h9)
        refine lv_iload_n hx hb dX6_allPurses_12 rfl (lv_at hl 1 rfl) ?_
        refine lv_aload_n hx hb dX6_allPurses_13 rfl (lv_at hl 0 rfl) ?_
        refine va_get (D := D) (ci := 6) (v := .ref aPU) (C := RX6) (T := TX6) (N := 4) hx hb hts inX6 hown hK hP 0 rfl rfl 0 (by decide) fl9 (fun _ h9 => h9) rfl dX6_allPurses_14 ?_
        refine lv_iload_n hx hb dX6_allPurses_17 rfl (lv_at hl 2 rfl) ?_
        refine m_iald (k := k) hx hb hK hP 1 0 rfl rfl (by omega) (by decide) dX6_allPurses_18 ?_
        refine lv_iadd hx hb dX6_allPurses_19 ?_
        refine lv_istore_n (lv' := [(1, .int (sm + (fPU k))), (0, .ref aT), (2, .int (nI k))]) hx hb dX6_allPurses_20 rfl hl (by decide) rfl (fun ls hl => ?_)
        refine lv_iinc (v := (nI (k + 1))) (lv' := [(2, .int (nI (k + 1))), (1, .int (sm + (fPU k))), (0, .ref aT)]) hx hb dX6_allPurses_21 hl (k := 2) rfl (nI_inc k 1 (by decide)) (by decide) rfl (fun ls hl => ?_)
        refine lv_goto (tgt := 4) hx hb dX6_allPurses_24 (by decide) ?_
        exact ih (k + 1) (sm + (fPU k)) (by omega) (by omega) (by rw [hs]; rfl) _ _ (hP) (hD) hS ls (lv_sub hl [2, 1, 0] rfl)
  exact L_4 ((nm - 0) + 1) 0 0 (Nat.lt_succ_self _) (by omega) (rfl) _ _ (hP) (hD) hS ls (lv_sub hl [2, 1, 0] rfl)
abbrev r_c_X6_settle : Room := { frames := 0, cells := 0, slots := 0, locals := 0 }
set_option maxHeartbeats 4000000 in
set_option maxRecDepth 100000 in
theorem c_X6_settle (l : Launch) (D : va_G) (cI cZ : ClassId) (aT : Nat) (aPU : Nat) (aP : Nat) (fPU : Nat → Int32) (nm : Nat) (td : Int32) (x : Int32) (hnm : nm ≤ 10) : MI l yX6_settle wsX6_settle r_c_X6_settle D cI cZ [.ref aT, .int x] [ob aT 6 [.ref aPU, .ref aP, .int (nI nm), .int td], ar cI aPU 10 fPU] (fun (r : Int32) (u : Nat × (Nat → Int32)) => (nm < 10 ∧ r = nI nm ∧ u.1 = nm + 1 ∧ u.2 = upd fPU nm x) ∨ (¬ nm < 10 ∧ r = -1 ∧ u.1 = nm ∧ u.2 = fPU)) (fun (u : Nat × (Nat → Int32)) => [ob aT 6 [.ref aPU, .ref aP, .int (nI u.1), .int td], ar cI aPU 10 u.2]) 0 0 := by
  refine MI.of (cc := cX6_settle) (maxL := 2) (by decide) rfl (Nat.le_of_ble_eq_true rfl) ?_
  intro p e s m below meth c A Q hx hb hml hown hts hN hK hA ret hP hD hS ls hl
  have hown : s.vm.findClass RX6 = some m.cls := hown
  have inX6 : ∀ w ∈ wsX60, w ∈ wsX6_settle := by decide +kernel
  have fl9 := hts (.fieldLink RX6 9 "AdvanceBook$Town" "purses" "[I") (by decide +kernel)
  have fl22 := hts (.fieldLink RX6 22 "AdvanceBook$Town" "men" "I") (by decide +kernel)
  have hP : va_P D vwCl [ob aT 6 [.ref aPU, .ref aP, .int (nI nm), .int td], ar cI aPU 10 fPU] s.heap := hP
  have hD : va_D A [ob aT 6 [.ref aPU, .ref aP, .int (nI nm), .int td], ar cI aPU 10 fPU] := hD
  have hl : lv_has ls 2 [(0, .ref aT), (1, .int x)] := hl
  refine lv_aload_n hx hb dX6_settle_0 rfl (lv_at hl 0 rfl) ?_
  refine va_get (D := D) (ci := 6) (v := .int (nI nm)) (C := RX6) (T := TX6) (N := 4) hx hb hts inX6 hown hK hP 0 rfl rfl 2 (by decide) fl22 (fun _ h9 => h9) rfl dX6_settle_1 ?_
  refine lv_bipush (v := 10) hx hb dX6_settle_4 (by decide) ?_
  refine lv_icmp_lt (tgt := 11) hx hb dX6_settle_6 (by decide) (fun c_6 => ?_) (fun c_6 => ?_)
  · skip
    have k_6 : nm < 10 := (nI_ltI (a := nm) (b := 10) (by omega) (by omega)).mp c_6
    refine lv_aload_n hx hb dX6_settle_11 rfl (lv_at hl 0 rfl) ?_
    refine va_get (D := D) (ci := 6) (v := .ref aPU) (C := RX6) (T := TX6) (N := 4) hx hb hts inX6 hown hK hP 0 rfl rfl 0 (by decide) fl9 (fun _ h9 => h9) rfl dX6_settle_12 ?_
    refine lv_aload_n hx hb dX6_settle_15 rfl (lv_at hl 0 rfl) ?_
    refine va_get (D := D) (ci := 6) (v := .int (nI nm)) (C := RX6) (T := TX6) (N := 4) hx hb hts inX6 hown hK hP 0 rfl rfl 2 (by decide) fl22 (fun _ h9 => h9) rfl dX6_settle_16 ?_
    refine lv_iload_n hx hb dX6_settle_19 rfl (lv_at hl 1 rfl) ?_
    refine m_iast (k := nm) (x := x) hx hb hK hP hD hS 1 0 rfl rfl (by omega) (by decide) dX6_settle_20 (fun H locs hP hD hS => ?_)
    have hP : va_P D vwCl [ob aT 6 [.ref aPU, .ref aP, .int (nI nm), .int td], ar cI aPU 10 (upd fPU nm x)] H := hP
    have hD : va_D A [ob aT 6 [.ref aPU, .ref aP, .int (nI nm), .int td], ar cI aPU 10 (upd fPU nm x)] := hD
    refine lv_aload_n hx hb dX6_settle_21 rfl (lv_at hl 0 rfl) ?_
    refine lv_dup hx hb dX6_settle_22 rfl ?_
    refine va_get (D := D) (ci := 6) (v := .int (nI nm)) (C := RX6) (T := TX6) (N := 4) hx hb hts inX6 hown hK hP 0 rfl rfl 2 (by decide) fl22 (fun _ h9 => h9) rfl dX6_settle_23 ?_
    refine lv_iconst (v := 1) hx hb dX6_settle_26 (by decide) ?_
    refine m_iaddN (a := nm) (b := 1) hx hb dX6_settle_27 ?_
    refine va_put (D := D) (ci := 6) (v := .int (nI (nm + 1))) (ty := .int) (C := RX6) (T := TX6) (N := 4) hx hb hts inX6 tyX6 tyX6_ok nmX6 hown hK hP hD hS 0 rfl rfl 2 (by decide) fl22 (fun _ h9 => h9) rfl (by decide +kernel) (rfl) (rfl) (Nat.le_of_ble_eq_true rfl) dX6_settle_28 (fun H locs hP hD hS => ?_)
    have hP : va_P D vwCl [ob aT 6 [.ref aPU, .ref aP, .int (nI (nm + 1)), .int td], ar cI aPU 10 (upd fPU nm x)] H := hP
    have hD : va_D A [ob aT 6 [.ref aPU, .ref aP, .int (nI (nm + 1)), .int td], ar cI aPU 10 (upd fPU nm x)] := hD
    refine lv_aload_n hx hb dX6_settle_31 rfl (lv_at hl 0 rfl) ?_
    refine va_get (D := D) (ci := 6) (v := .int (nI (nm + 1))) (C := RX6) (T := TX6) (N := 4) hx hb hts inX6 hown hK hP 0 rfl rfl 2 (by decide) fl22 (fun _ h9 => h9) rfl dX6_settle_32 ?_
    refine lv_iconst (v := 1) hx hb dX6_settle_35 (by decide) ?_
    refine lv_isub hx hb dX6_settle_36 ?_
    exact ret ((nI (nm + 1)) - 1) ((nm + 1), (upd fPU nm x)) _ _ _ _ dX6_settle_37 (Or.inl ⟨k_6, nI_pred nm, rfl, rfl⟩) (hP) (hD) hS
  · skip
    have k_6 : ¬ nm < 10 := fun h9 => c_6 ((nI_ltI (a := nm) (b := 10) (by omega) (by omega)).mpr h9)
    refine lv_iconst (v := (-1)) hx hb dX6_settle_9 (by decide) ?_
    exact ret (-1) (nm, fPU) _ _ _ _ dX6_settle_10 (Or.inr ⟨k_6, rfl, rfl, rfl⟩) (hP) (hD) hS
abbrev r_c_X6_isCrew : Room := { frames := 0, cells := 0, slots := 0, locals := 0 }
set_option maxHeartbeats 4000000 in
set_option maxRecDepth 100000 in
theorem c_X6_isCrew (l : Launch) (D : va_G) (cI cZ : ClassId) (aT : Nat) (aPU : Nat) (aP : Nat) (nm : Nat) (td : Int32) (v : Nat) (cp : Nat) (hnm : nm ≤ 10) (hv : v < 2 ^ 32) (hcp : cp < 10) : MI l yX6_isCrew wsX6_isCrew r_c_X6_isCrew D cI cZ [.ref aT, .int (nI v), .int (nI cp)] [ob aT 6 [.ref aPU, .ref aP, .int (nI nm), .int td]] (fun (r : Int32) (u : Unit) => r = if v < 2 ^ nm ∧ bt v cp = 0 then 1 else 0) (fun (u : Unit) => [ob aT 6 [.ref aPU, .ref aP, .int (nI nm), .int td]]) 0 0 := by
  refine MI.ofZ (cc := cX6_isCrew) (maxL := 3) (by decide) rfl (Nat.le_of_ble_eq_true rfl) ?_
  intro p e s m below meth c A Q hx hb hml hown hts hN hK hA ret hP hD hS ls hl
  have hown : s.vm.findClass RX6 = some m.cls := hown
  have inX6 : ∀ w ∈ wsX60, w ∈ wsX6_isCrew := by decide +kernel
  have fl22 := hts (.fieldLink RX6 22 "AdvanceBook$Town" "men" "I") (by decide +kernel)
  have hP : va_P D vwCl [ob aT 6 [.ref aPU, .ref aP, .int (nI nm), .int td]] s.heap := hP
  have hD : va_D A [ob aT 6 [.ref aPU, .ref aP, .int (nI nm), .int td]] := hD
  have hl : lv_has ls 3 [(0, .ref aT), (1, .int (nI v)), (2, .int (nI cp))] := hl
  have u1 := ush_nat (v := v) (k := nm) hv (by omega)
  have u2 := bit_u (v := v) (k := cp) hv (by omega)
  have u3 : v / 2 ^ nm < 2 ^ 32 := Nat.lt_of_le_of_lt (Nat.div_le_self _ _) hv
  have u4 := bt_le v cp
  refine lv_iload_n hx hb dX6_isCrew_0 rfl (lv_at hl 1 rfl) ?_
  refine lv_aload_n hx hb dX6_isCrew_1 rfl (lv_at hl 0 rfl) ?_
  refine va_get (D := D) (ci := 6) (v := .int (nI nm)) (C := RX6) (T := TX6) (N := 4) hx hb hts inX6 hown hK hP 0 rfl rfl 2 (by decide) fl22 (fun _ h9 => h9) rfl dX6_isCrew_2 ?_
  refine lv_iushr (v := (((nI v)).toUInt32 >>> (((nI nm) : Int32).toUInt32 &&& Int32.toUInt32 31)).toInt32) hx hb dX6_isCrew_5 rfl ?_
  refine lv_if_ne (tgt := 21) hx hb dX6_isCrew_6 (by decide) (fun c_6 => ?_) (fun c_6 => ?_)
  · skip
    refine lv_iconst (v := 0) hx hb dX6_isCrew_21 (by decide) ?_
    exact ret 0 () _ _ _ _ dX6_isCrew_22 (Or.inl rfl) (by first | (rw [if_neg]; rintro ⟨h1, h2⟩; first | exact c_6 (u1.trans (by rw [div_pow_eq0 h1]; rfl)) | exact c_14 (u2.trans (by rw [h2]; rfl))) | (rw [if_pos ⟨lt_of_div_eq0 (nI32_0 u3 (u1.symm.trans c_6)), nI32_0 (by omega) (u2.symm.trans c_14)⟩])) (hP) (hD) hS
  · skip
    refine lv_iload_n hx hb dX6_isCrew_9 rfl (lv_at hl 1 rfl) ?_
    refine lv_iload_n hx hb dX6_isCrew_10 rfl (lv_at hl 2 rfl) ?_
    refine lv_iushr (v := (((nI v)).toUInt32 >>> (((nI cp) : Int32).toUInt32 &&& Int32.toUInt32 31)).toInt32) hx hb dX6_isCrew_11 rfl ?_
    refine lv_iconst (v := 1) hx hb dX6_isCrew_12 (by decide) ?_
    refine lv_iand hx hb dX6_isCrew_13 ?_
    refine lv_if_ne (tgt := 21) hx hb dX6_isCrew_14 (by decide) (fun c_14 => ?_) (fun c_14 => ?_)
    · skip
      refine lv_iconst (v := 0) hx hb dX6_isCrew_21 (by decide) ?_
      exact ret 0 () _ _ _ _ dX6_isCrew_22 (Or.inl rfl) (by first | (rw [if_neg]; rintro ⟨h1, h2⟩; first | exact c_6 (u1.trans (by rw [div_pow_eq0 h1]; rfl)) | exact c_14 (u2.trans (by rw [h2]; rfl))) | (rw [if_pos ⟨lt_of_div_eq0 (nI32_0 u3 (u1.symm.trans c_6)), nI32_0 (by omega) (u2.symm.trans c_14)⟩])) (hP) (hD) hS
    · skip
      refine lv_iconst (v := 1) hx hb dX6_isCrew_17 (by decide) ?_
      refine lv_goto (tgt := 22) hx hb dX6_isCrew_18 (by decide) ?_
      exact ret 1 () _ _ _ _ dX6_isCrew_22 (Or.inr rfl) (by first | (rw [if_neg]; rintro ⟨h1, h2⟩; first | exact c_6 (u1.trans (by rw [div_pow_eq0 h1]; rfl)) | exact c_14 (u2.trans (by rw [h2]; rfl))) | (rw [if_pos ⟨lt_of_div_eq0 (nI32_0 u3 (u1.symm.trans c_6)), nI32_0 (by omega) (u2.symm.trans c_14)⟩])) (hP) (hD) hS
abbrev r_c_J6_bitCount_0f7a4 : Room := { frames := 0, cells := 0, slots := 0, locals := 0 }
set_option maxHeartbeats 4000000 in
set_option maxRecDepth 100000 in
theorem c_J6_bitCount_0f7a4 (l : Launch) (D : va_G) (cI cZ : ClassId) (v : Nat) (hv : v < 1024) : MI l yJ6_bitCount_0f7a4 wsJ6_bitCount_0f7a4 r_c_J6_bitCount_0f7a4 D cI cZ [.int (nI v)] [] (fun (r : Int32) (u : Unit) => r = nI (cntB v 10)) (fun (u : Unit) => []) 0 0 := by
  refine MI.of (cc := cJ6_bitCount_0f7a4) (maxL := 1) (by decide) rfl (Nat.le_of_ble_eq_true rfl) ?_
  intro p e s m below meth c A Q hx hb hml hown hts hN hK hA ret hP hD hS ls hl
  have hown : s.vm.findClass RJ6 = some m.cls := hown
  have hP : va_P D vwCl [] s.heap := hP
  have hD : va_D A [] := hD
  have hl : lv_has ls 1 [(0, .int (nI v))] := hl
  refine lv_iload_n hx hb dJ6_bitCount_0f7a4_0 rfl (lv_at hl 0 rfl) ?_
  refine lv_iload_n hx hb dJ6_bitCount_0f7a4_1 rfl (lv_at hl 0 rfl) ?_
  refine lv_iconst (v := 1) hx hb dJ6_bitCount_0f7a4_2 (by decide) ?_
  refine lv_iushr (v := (((nI v)).toUInt32 >>> ((1 : Int32).toUInt32 &&& Int32.toUInt32 31)).toInt32) hx hb dJ6_bitCount_0f7a4_3 rfl ?_
  refine lv_ldcw (v := 1431655765) hx hb hown (hts (.constant RJ6 265 1431655765) (by decide +kernel)) dJ6_bitCount_0f7a4_4 ?_
  refine lv_iand hx hb dJ6_bitCount_0f7a4_7 ?_
  refine lv_isub hx hb dJ6_bitCount_0f7a4_8 ?_
  refine lv_topi (fun y1 ey1 => ?_)
  refine lv_istore_n (lv' := [(0, .int y1)]) hx hb dJ6_bitCount_0f7a4_9 rfl hl (by decide) rfl (fun ls hl => ?_)
  refine lv_iload_n hx hb dJ6_bitCount_0f7a4_10 rfl (lv_at hl 0 rfl) ?_
  refine lv_ldcw (v := 858993459) hx hb hown (hts (.constant RJ6 266 858993459) (by decide +kernel)) dJ6_bitCount_0f7a4_11 ?_
  refine lv_iand hx hb dJ6_bitCount_0f7a4_14 ?_
  refine lv_iload_n hx hb dJ6_bitCount_0f7a4_15 rfl (lv_at hl 0 rfl) ?_
  refine lv_iconst (v := 2) hx hb dJ6_bitCount_0f7a4_16 (by decide) ?_
  refine lv_iushr (v := ((y1).toUInt32 >>> ((2 : Int32).toUInt32 &&& Int32.toUInt32 31)).toInt32) hx hb dJ6_bitCount_0f7a4_17 rfl ?_
  refine lv_ldcw (v := 858993459) hx hb hown (hts (.constant RJ6 266 858993459) (by decide +kernel)) dJ6_bitCount_0f7a4_18 ?_
  refine lv_iand hx hb dJ6_bitCount_0f7a4_21 ?_
  refine lv_iadd hx hb dJ6_bitCount_0f7a4_22 ?_
  refine lv_topi (fun y2 ey2 => ?_)
  refine lv_istore_n (lv' := [(0, .int y2)]) hx hb dJ6_bitCount_0f7a4_23 rfl hl (by decide) rfl (fun ls hl => ?_)
  refine lv_iload_n hx hb dJ6_bitCount_0f7a4_24 rfl (lv_at hl 0 rfl) ?_
  refine lv_iload_n hx hb dJ6_bitCount_0f7a4_25 rfl (lv_at hl 0 rfl) ?_
  refine lv_iconst (v := 4) hx hb dJ6_bitCount_0f7a4_26 (by decide) ?_
  refine lv_iushr (v := ((y2).toUInt32 >>> ((4 : Int32).toUInt32 &&& Int32.toUInt32 31)).toInt32) hx hb dJ6_bitCount_0f7a4_27 rfl ?_
  refine lv_iadd hx hb dJ6_bitCount_0f7a4_28 ?_
  refine lv_ldcw (v := 252645135) hx hb hown (hts (.constant RJ6 267 252645135) (by decide +kernel)) dJ6_bitCount_0f7a4_29 ?_
  refine lv_iand hx hb dJ6_bitCount_0f7a4_32 ?_
  refine lv_topi (fun y3 ey3 => ?_)
  refine lv_istore_n (lv' := [(0, .int y3)]) hx hb dJ6_bitCount_0f7a4_33 rfl hl (by decide) rfl (fun ls hl => ?_)
  refine lv_iload_n hx hb dJ6_bitCount_0f7a4_34 rfl (lv_at hl 0 rfl) ?_
  refine lv_iload_n hx hb dJ6_bitCount_0f7a4_35 rfl (lv_at hl 0 rfl) ?_
  refine lv_bipush (v := 8) hx hb dJ6_bitCount_0f7a4_36 (by decide) ?_
  refine lv_iushr (v := ((y3).toUInt32 >>> ((8 : Int32).toUInt32 &&& Int32.toUInt32 31)).toInt32) hx hb dJ6_bitCount_0f7a4_38 rfl ?_
  refine lv_iadd hx hb dJ6_bitCount_0f7a4_39 ?_
  refine lv_topi (fun y4 ey4 => ?_)
  refine lv_istore_n (lv' := [(0, .int y4)]) hx hb dJ6_bitCount_0f7a4_40 rfl hl (by decide) rfl (fun ls hl => ?_)
  refine lv_iload_n hx hb dJ6_bitCount_0f7a4_41 rfl (lv_at hl 0 rfl) ?_
  refine lv_iload_n hx hb dJ6_bitCount_0f7a4_42 rfl (lv_at hl 0 rfl) ?_
  refine lv_bipush (v := 16) hx hb dJ6_bitCount_0f7a4_43 (by decide) ?_
  refine lv_iushr (v := ((y4).toUInt32 >>> ((16 : Int32).toUInt32 &&& Int32.toUInt32 31)).toInt32) hx hb dJ6_bitCount_0f7a4_45 rfl ?_
  refine lv_iadd hx hb dJ6_bitCount_0f7a4_46 ?_
  refine lv_topi (fun y5 ey5 => ?_)
  refine lv_istore_n (lv' := [(0, .int y5)]) hx hb dJ6_bitCount_0f7a4_47 rfl hl (by decide) rfl (fun ls hl => ?_)
  refine lv_iload_n hx hb dJ6_bitCount_0f7a4_48 rfl (lv_at hl 0 rfl) ?_
  refine lv_bipush (v := 63) hx hb dJ6_bitCount_0f7a4_49 (by decide) ?_
  refine lv_iand hx hb dJ6_bitCount_0f7a4_51 ?_
  exact ret (y5 &&& 63) () _ _ _ _ dJ6_bitCount_0f7a4_52 (by subst ey1 ey2 ey3 ey4 ey5; exact bc_ok v hv) (hP) (hD) hS
abbrev r_c_X6_shareBoat : Room := { frames := 1, cells := 0, slots := 0, locals := 20 }
set_option maxHeartbeats 4000000 in
set_option maxRecDepth 100000 in
theorem c_X6_shareBoat (l : Launch) (D : va_G) (cI cZ : ClassId) (aT : Nat) (aPU : Nat) (aP : Nat) (fPU : Nat → Int32) (nm : Nat) (td : Int32) (ga : Int32) (cp : Nat) (pt : Nat) (v : Nat) (hnm : nm ≤ 10) (hcp : cp < 10) (hpt : 1 ≤ pt ∧ pt ≤ 9) (hv : v < 1024) : MI l yX6_shareBoat wsX6_shareBoat r_c_X6_shareBoat D cI cZ [.ref aT, .int ga, .int (nI cp), .int (nI pt), .int (nI v)] [ob aT 6 [.ref aPU, .ref aP, .int (nI nm), .int td], ar cI aPU 10 fPU] (fun (r : Int32) (u : (Nat → Int32)) => r = (ga / nI (pt + cntB v 10)) ∧ u = upd (fil (shareS fPU v (ga / nI (pt + cntB v 10))) fPU nm) cp (fil (shareS fPU v (ga / nI (pt + cntB v 10))) fPU nm cp + (ga - (ga / nI (pt + cntB v 10)) * nI (cntB v 10)))) (fun (u : (Nat → Int32)) => [ob aT 6 [.ref aPU, .ref aP, .int (nI nm), .int td], ar cI aPU 10 u]) 0 0 := by
  refine MI.of (cc := cX6_shareBoat) (maxL := 9) (by decide) rfl (Nat.le_of_ble_eq_true rfl) ?_
  intro p e s m below meth c A Q hx hb hml hown hts hN hK hA ret hP hD hS ls hl
  have hown : s.vm.findClass RX6 = some m.cls := hown
  have inX6 : ∀ w ∈ wsX60, w ∈ wsX6_shareBoat := by decide +kernel
  have fl9 := hts (.fieldLink RX6 9 "AdvanceBook$Town" "purses" "[I") (by decide +kernel)
  have fl22 := hts (.fieldLink RX6 22 "AdvanceBook$Town" "men" "I") (by decide +kernel)
  have hP : va_P D vwCl [ob aT 6 [.ref aPU, .ref aP, .int (nI nm), .int td], ar cI aPU 10 fPU] s.heap := hP
  have hD : va_D A [ob aT 6 [.ref aPU, .ref aP, .int (nI nm), .int td], ar cI aPU 10 fPU] := hD
  have hl : lv_has ls 9 [(0, .ref aT), (1, .int ga), (2, .int (nI cp)), (3, .int (nI pt)), (4, .int (nI v))] := hl
  refine lv_iload hx hb dX6_shareBoat_0 (lv_at hl 4 rfl) ?_
  refine m_cSi (As := [.int (nI v)]) (rest := []) (wr := [ob aT 6 [.ref aPU, .ref aP, .int (nI nm), .int td], ar cI aPU 10 fPU]) ⟨hx, hb, hml, hown, hts⟩ (c_J6_bitCount_0f7a4 l D cI cZ v (by first | assumption | omega)) (va_cwS 1 hts gX6_shareBoat_J6_bitCount_0f7a4 rfl rfl rfl (by decide +kernel) ⟨Nat.le_of_ble_eq_true rfl, Nat.le_of_ble_eq_true rfl⟩) hN hK hP hD hS hA [] [0, 1] rfl rfl (by decide) (by decide) (by decide) rfl hl.1 rfl (Nat.le_of_ble_eq_true rfl) dX6_shareBoat_2 ⟨Nat.le_of_ble_eq_true rfl, Nat.le_of_ble_eq_true rfl⟩ (fun r_2 u_2 H locs hq_2 hP hD hS => ?_)
  have hq_2 : r_2 = nI (cntB v 10) := hq_2
  have hP : va_P D vwCl [ob aT 6 [.ref aPU, .ref aP, .int (nI nm), .int td], ar cI aPU 10 fPU] H := hP
  have hD : va_D A [ob aT 6 [.ref aPU, .ref aP, .int (nI nm), .int td], ar cI aPU 10 fPU] := hD
  subst hq_2
  have hc10 := cntB_le v 10
  refine lv_istore (lv' := [(5, .int (nI (cntB v 10))), (0, .ref aT), (1, .int ga), (2, .int (nI cp)), (3, .int (nI pt)), (4, .int (nI v))]) hx hb dX6_shareBoat_5 hl (by decide) rfl (fun ls hl => ?_)
  refine lv_iload_n hx hb dX6_shareBoat_7 rfl (lv_at hl 4 rfl) ?_
  refine lv_iload hx hb dX6_shareBoat_8 (lv_at hl 0 rfl) ?_
  refine m_iaddN (a := pt) (b := (cntB v 10)) hx hb dX6_shareBoat_10 ?_
  refine lv_istore (lv' := [(6, .int (nI (pt + (cntB v 10)))), (5, .int (nI (cntB v 10))), (0, .ref aT), (1, .int ga), (2, .int (nI cp)), (3, .int (nI pt)), (4, .int (nI v))]) hx hb dX6_shareBoat_11 hl (by decide) rfl (fun ls hl => ?_)
  refine lv_iload hx hb dX6_shareBoat_13 (lv_at hl 0 rfl) ?_
  refine lv_if_le (tgt := 25) hx hb dX6_shareBoat_15 (by decide) (fun c_15 => ?_) (fun c_15 => ?_)
  · skip
    have k_15 : (pt + (cntB v 10)) ≤ 0 := (nI_leI (a := (pt + (cntB v 10))) (b := 0) (by omega) (by omega)).mp c_15
    exact absurd k_15 (by omega)
  · skip
    have k_15 : ¬ (pt + (cntB v 10)) ≤ 0 := fun h9 => c_15 ((nI_leI (a := (pt + (cntB v 10))) (b := 0) (by omega) (by omega)).mpr h9)
    refine lv_iload_n hx hb dX6_shareBoat_18 rfl (lv_at hl 3 rfl) ?_
    refine lv_iload hx hb dX6_shareBoat_19 (lv_at hl 0 rfl) ?_
    refine lv_idiv hx hb dX6_shareBoat_21 (nI_ne0 (by omega) (by omega)) ?_
    refine lv_goto (tgt := 26) hx hb dX6_shareBoat_22 (by decide) ?_
    refine lv_istore (lv' := [(7, .int (ga / (nI (pt + (cntB v 10))))), (6, .int (nI (pt + (cntB v 10)))), (5, .int (nI (cntB v 10))), (0, .ref aT), (1, .int ga), (2, .int (nI cp)), (3, .int (nI pt)), (4, .int (nI v))]) hx hb dX6_shareBoat_26 hl (by decide) rfl (fun ls hl => ?_)
    refine lv_iconst (v := 0) hx hb dX6_shareBoat_28 (by decide) ?_
    refine lv_istore (lv' := [(8, .int 0), (7, .int (ga / (nI (pt + (cntB v 10))))), (6, .int (nI (pt + (cntB v 10)))), (5, .int (nI (cntB v 10))), (0, .ref aT), (1, .int ga), (2, .int (nI cp)), (3, .int (nI pt)), (4, .int (nI v))]) hx hb dX6_shareBoat_29 hl (by decide) rfl (fun ls hl => ?_)
    have L_31 : ∀ (n : Nat) (k : Nat) (h : Nat → Int32), (nm - k < n) → (k ≤ nm) → (h = fil (shareS fPU v (ga / nI (pt + cntB v 10))) fPU k) → ∀ (H : Heap) (locs : List Loc), va_P D vwCl [ob aT 6 [.ref aPU, .ref aP, .int (nI nm), .int td], ar cI aPU 10 h] H → va_D A [ob aT 6 [.ref aPU, .ref aP, .int (nI nm), .int td], ar cI aPU 10 h] → va_S A s.heap H locs → ∀ ls : Array Slot, lv_has ls 9 [(0, .ref aT), (1, .int ga), (2, .int (nI cp)), (3, .int (nI pt)), (4, .int (nI v)), (5, .int (nI (cntB v 10))), (6, .int (nI (pt + (cntB v 10)))), (7, .int (ga / (nI (pt + (cntB v 10))))), (8, .int (nI k))] → W p l e r_c_X6_shareBoat s m (([.ref aT, .int ga, .int (nI cp), .int (nI pt), .int (nI v)] : List Value).toArray) below meth c H locs 0 0 Q (F0 m 31 ls []) := by
      intro n
      induction n with
      | zero => intro k h hfu; exact absurd hfu (Nat.not_lt_zero _)
      | succ n ih =>
        intro k h hfu hk hh H locs hP hD hS ls hl
        have e1 := fil_at hh
        have u2 := bit_u (v := v) (k := k) (by omega) (by omega)
        have u4 := bt_le v k
        refine lv_iload hx hb dX6_shareBoat_31 (lv_at hl 8 rfl) ?_
        refine lv_aload_n hx hb dX6_shareBoat_33 rfl (lv_at hl 0 rfl) ?_
        refine va_get (D := D) (ci := 6) (v := .int (nI nm)) (C := RX6) (T := TX6) (N := 4) hx hb hts inX6 hown hK hP 0 rfl rfl 2 (by decide) fl22 (fun _ h9 => h9) rfl dX6_shareBoat_34 ?_
        refine lv_icmp_ge (tgt := 69) hx hb dX6_shareBoat_37 (by decide) (fun c_37 => ?_) (fun c_37 => ?_)
        · skip
          have k_37 : nm ≤ k := (nI_leI (a := nm) (b := k) (by omega) (by omega)).mp c_37
          refine lv_aload_n hx hb dX6_shareBoat_69 rfl (lv_at hl 0 rfl) ?_
          refine va_get (D := D) (ci := 6) (v := .ref aPU) (C := RX6) (T := TX6) (N := 4) hx hb hts inX6 hown hK hP 0 rfl rfl 0 (by decide) fl9 (fun _ h9 => h9) rfl dX6_shareBoat_70 ?_
          refine lv_iload_n hx hb dX6_shareBoat_73 rfl (lv_at hl 2 rfl) ?_
          refine lv_dup2_11 hx hb dX6_shareBoat_74 rfl rfl ?_
          refine m_iald (k := cp) hx hb hK hP 1 0 rfl rfl (by omega) (by decide) dX6_shareBoat_75 ?_
          refine lv_iload_n hx hb dX6_shareBoat_76 rfl (lv_at hl 1 rfl) ?_
          refine lv_iload hx hb dX6_shareBoat_77 (lv_at hl 7 rfl) ?_
          refine lv_iload hx hb dX6_shareBoat_79 (lv_at hl 5 rfl) ?_
          refine lv_imul hx hb dX6_shareBoat_81 ?_
          refine lv_isub hx hb dX6_shareBoat_82 ?_
          refine lv_iadd hx hb dX6_shareBoat_83 ?_
          refine m_iast (k := cp) (x := ((h cp) + (ga - ((ga / (nI (pt + (cntB v 10)))) * (nI (cntB v 10)))))) hx hb hK hP hD hS 1 0 rfl rfl (by omega) (by decide) dX6_shareBoat_84 (fun H locs hP hD hS => ?_)
          have hP : va_P D vwCl [ob aT 6 [.ref aPU, .ref aP, .int (nI nm), .int td], ar cI aPU 10 (upd h cp ((h cp) + (ga - ((ga / (nI (pt + (cntB v 10)))) * (nI (cntB v 10))))))] H := hP
          have hD : va_D A [ob aT 6 [.ref aPU, .ref aP, .int (nI nm), .int td], ar cI aPU 10 (upd h cp ((h cp) + (ga - ((ga / (nI (pt + (cntB v 10)))) * (nI (cntB v 10))))))] := hD
          refine lv_iload hx hb dX6_shareBoat_85 (lv_at hl 7 rfl) ?_
          exact ret (ga / (nI (pt + (cntB v 10)))) (upd h cp ((h cp) + (ga - ((ga / (nI (pt + (cntB v 10)))) * (nI (cntB v 10)))))) _ _ _ _ dX6_shareBoat_87 (by have e : k = nm := (by omega); subst e; exact ⟨rfl, by rw [hh]⟩) (hP) (hD) hS
        · skip
          have k_37 : ¬ nm ≤ k := fun h9 => c_37 ((nI_leI (a := nm) (b := k) (by omega) (by omega)).mpr h9)
          refine lv_iload hx hb dX6_shareBoat_40 (lv_at hl 4 rfl) ?_
          refine lv_iload hx hb dX6_shareBoat_42 (lv_at hl 8 rfl) ?_
          refine lv_iushr (v := (((nI v)).toUInt32 >>> (((nI k) : Int32).toUInt32 &&& Int32.toUInt32 31)).toInt32) hx hb dX6_shareBoat_44 rfl ?_
          refine lv_iconst (v := 1) hx hb dX6_shareBoat_45 (by decide) ?_
          refine lv_iand hx hb dX6_shareBoat_46 ?_
          refine lv_iconst (v := 1) hx hb dX6_shareBoat_47 (by decide) ?_
          refine lv_icmp_ne (tgt := 63) hx hb dX6_shareBoat_48 (by decide) (fun c_48 => ?_) (fun c_48 => ?_)
          · skip
            refine lv_iinc (v := (nI (k + 1))) (lv' := [(8, .int (nI (k + 1))), (0, .ref aT), (1, .int ga), (2, .int (nI cp)), (3, .int (nI pt)), (4, .int (nI v)), (5, .int (nI (cntB v 10))), (6, .int (nI (pt + (cntB v 10)))), (7, .int (ga / (nI (pt + (cntB v 10)))))]) hx hb dX6_shareBoat_63 hl (k := 8) rfl (nI_inc k 1 (by decide)) (by decide) rfl (fun ls hl => ?_)
            refine lv_goto (tgt := 31) hx hb dX6_shareBoat_66 (by decide) ?_
            exact ih (k + 1) h (by omega) (by omega) (by first | exact fil_step hh (by rw [e1]; unfold shareS; rw [if_pos (nI32_inj (by omega) (by decide) (u2.symm.trans c_48))]) | exact fil_skip hh (by unfold shareS; rw [if_neg (fun h => c_48 (u2.trans (by rw [h]; rfl)))])) _ _ (hP) (hD) hS ls (lv_sub hl [1, 2, 3, 4, 5, 6, 7, 8, 0] rfl)
          · skip
            refine lv_aload_n hx hb dX6_shareBoat_51 rfl (lv_at hl 0 rfl) ?_
            refine va_get (D := D) (ci := 6) (v := .ref aPU) (C := RX6) (T := TX6) (N := 4) hx hb hts inX6 hown hK hP 0 rfl rfl 0 (by decide) fl9 (fun _ h9 => h9) rfl dX6_shareBoat_52 ?_
            refine lv_iload hx hb dX6_shareBoat_55 (lv_at hl 8 rfl) ?_
            refine lv_dup2_11 hx hb dX6_shareBoat_57 rfl rfl ?_
            refine m_iald (k := k) hx hb hK hP 1 0 rfl rfl (by omega) (by decide) dX6_shareBoat_58 ?_
            refine lv_iload hx hb dX6_shareBoat_59 (lv_at hl 7 rfl) ?_
            refine lv_iadd hx hb dX6_shareBoat_61 ?_
            refine m_iast (k := k) (x := ((h k) + (ga / (nI (pt + (cntB v 10)))))) hx hb hK hP hD hS 1 0 rfl rfl (by omega) (by decide) dX6_shareBoat_62 (fun H locs hP hD hS => ?_)
            have hP : va_P D vwCl [ob aT 6 [.ref aPU, .ref aP, .int (nI nm), .int td], ar cI aPU 10 (upd h k ((h k) + (ga / (nI (pt + (cntB v 10))))))] H := hP
            have hD : va_D A [ob aT 6 [.ref aPU, .ref aP, .int (nI nm), .int td], ar cI aPU 10 (upd h k ((h k) + (ga / (nI (pt + (cntB v 10))))))] := hD
            refine lv_iinc (v := (nI (k + 1))) (lv' := [(8, .int (nI (k + 1))), (0, .ref aT), (1, .int ga), (2, .int (nI cp)), (3, .int (nI pt)), (4, .int (nI v)), (5, .int (nI (cntB v 10))), (6, .int (nI (pt + (cntB v 10)))), (7, .int (ga / (nI (pt + (cntB v 10)))))]) hx hb dX6_shareBoat_63 hl (k := 8) rfl (nI_inc k 1 (by decide)) (by decide) rfl (fun ls hl => ?_)
            refine lv_goto (tgt := 31) hx hb dX6_shareBoat_66 (by decide) ?_
            exact ih (k + 1) (upd h k ((h k) + (ga / (nI (pt + (cntB v 10)))))) (by omega) (by omega) (by first | exact fil_step hh (by rw [e1]; unfold shareS; rw [if_pos (nI32_inj (by omega) (by decide) (u2.symm.trans c_48))]) | exact fil_skip hh (by unfold shareS; rw [if_neg (fun h => c_48 (u2.trans (by rw [h]; rfl)))])) _ _ (hP) (hD) hS ls (lv_sub hl [1, 2, 3, 4, 5, 6, 7, 8, 0] rfl)
    exact L_31 ((nm - 0) + 1) 0 fPU (Nat.lt_succ_self _) (by omega) (fil_0.symm) _ _ (hP) (hD) hS ls (lv_sub hl [4, 5, 6, 7, 8, 3, 2, 1, 0] rfl)
abbrev r_c_X6_handOver : Room := { frames := 1, cells := 0, slots := 0, locals := 23 }
set_option maxHeartbeats 4000000 in
set_option maxRecDepth 100000 in
theorem c_X6_handOver (l : Launch) (D : va_G) (cI cZ : ClassId) (aT : Nat) (aPU : Nat) (aP : Nat) (aTD : Nat) (aTC : Nat) (aTK : Nat) (aTR : Nat) (aDY : Nat) (aCP : Nat) (aDB : Nat) (aCR : Nat) (aRK : Nat) (aLF : Nat) (fPU : Nat → Int32) (fDB : Nat → Int32) (fCR : Nat → Int32) (fLF : Nat → Int32) (nm : Nat) (td : Int32) (np : Nat) (a : Nat) (b : Nat) (hnp : np ≤ 40) (ha : a < 10) (hb2 : b < 10) : MV l yX6_handOver wsX6_handOver r_c_X6_handOver D cI cZ [.ref aT, .int (nI a), .int (nI b)] [ob aT 6 [.ref aPU, .ref aP, .int (nI nm), .int td], ar cI aPU 10 fPU, ob aP 3 [.ref aTD, .ref aTC, .ref aTK, .ref aTR, .ref aDY, .ref aCP, .ref aDB, .ref aCR, .ref aRK, .ref aLF, .int (nI np)], ar cI aDB 40 fDB, ar cI aCR 40 fCR, ar cI aLF 40 fLF] (fun (u : (Nat → Int32) × (Nat → Int32) × (Nat → Int32) × (Nat → Int32)) => u.1 = upd (upd fPU b (fPU b + fPU a)) a 0 ∧ u.2.1 = fil (rep (nI a) (nI b) fDB) fDB np ∧ u.2.2.1 = fil (rep (nI a) (nI b) fCR) fCR np ∧ u.2.2.2 = fil (repL (nI a) (nI b) fDB fCR fLF) fLF np) (fun (u : (Nat → Int32) × (Nat → Int32) × (Nat → Int32) × (Nat → Int32)) => [ob aT 6 [.ref aPU, .ref aP, .int (nI nm), .int td], ar cI aPU 10 u.1, ob aP 3 [.ref aTD, .ref aTC, .ref aTK, .ref aTR, .ref aDY, .ref aCP, .ref aDB, .ref aCR, .ref aRK, .ref aLF, .int (nI np)], ar cI aDB 40 u.2.1, ar cI aCR 40 u.2.2.1, ar cI aLF 40 u.2.2.2]) 0 0 := by
  refine MV.of (cc := cX6_handOver) (maxL := 3) (by decide) rfl (Nat.le_of_ble_eq_true rfl) ?_
  intro p e s m below meth c A Q hx hb hml hown hts hN hK hA ret hP hD hS ls hl hmn
  have hown : s.vm.findClass RX6 = some m.cls := hown
  have inX6 : ∀ w ∈ wsX60, w ∈ wsX6_handOver := by decide +kernel
  have fl9 := hts (.fieldLink RX6 9 "AdvanceBook$Town" "purses" "[I") (by decide +kernel)
  have fl18 := hts (.fieldLink RX6 18 "AdvanceBook$Town" "papers" "LAdvanceBook$Papers;") (by decide +kernel)
  have hP : va_P D vwCl [ob aT 6 [.ref aPU, .ref aP, .int (nI nm), .int td], ar cI aPU 10 fPU, ob aP 3 [.ref aTD, .ref aTC, .ref aTK, .ref aTR, .ref aDY, .ref aCP, .ref aDB, .ref aCR, .ref aRK, .ref aLF, .int (nI np)], ar cI aDB 40 fDB, ar cI aCR 40 fCR, ar cI aLF 40 fLF] s.heap := hP
  have hD : va_D A [ob aT 6 [.ref aPU, .ref aP, .int (nI nm), .int td], ar cI aPU 10 fPU, ob aP 3 [.ref aTD, .ref aTC, .ref aTK, .ref aTR, .ref aDY, .ref aCP, .ref aDB, .ref aCR, .ref aRK, .ref aLF, .int (nI np)], ar cI aDB 40 fDB, ar cI aCR 40 fCR, ar cI aLF 40 fLF] := hD
  have hl : lv_has ls 3 [(0, .ref aT), (1, .int (nI a)), (2, .int (nI b))] := hl
  refine lv_aload_n hx hb dX6_handOver_0 rfl (lv_at hl 0 rfl) ?_
  refine va_get (D := D) (ci := 6) (v := .ref aPU) (C := RX6) (T := TX6) (N := 4) hx hb hts inX6 hown hK hP 0 rfl rfl 0 (by decide) fl9 (fun _ h9 => h9) rfl dX6_handOver_1 ?_
  refine lv_iload_n hx hb dX6_handOver_4 rfl (lv_at hl 2 rfl) ?_
  refine lv_dup2_11 hx hb dX6_handOver_5 rfl rfl ?_
  refine m_iald (k := b) hx hb hK hP 1 0 rfl rfl (by omega) (by decide) dX6_handOver_6 ?_
  refine lv_aload_n hx hb dX6_handOver_7 rfl (lv_at hl 0 rfl) ?_
  refine va_get (D := D) (ci := 6) (v := .ref aPU) (C := RX6) (T := TX6) (N := 4) hx hb hts inX6 hown hK hP 0 rfl rfl 0 (by decide) fl9 (fun _ h9 => h9) rfl dX6_handOver_8 ?_
  refine lv_iload_n hx hb dX6_handOver_11 rfl (lv_at hl 1 rfl) ?_
  refine m_iald (k := a) hx hb hK hP 1 0 rfl rfl (by omega) (by decide) dX6_handOver_12 ?_
  refine lv_iadd hx hb dX6_handOver_13 ?_
  refine m_iast (k := b) (x := ((fPU b) + (fPU a))) hx hb hK hP hD hS 1 0 rfl rfl (by omega) (by decide) dX6_handOver_14 (fun H locs hP hD hS => ?_)
  have hP : va_P D vwCl [ob aT 6 [.ref aPU, .ref aP, .int (nI nm), .int td], ar cI aPU 10 (upd fPU b ((fPU b) + (fPU a))), ob aP 3 [.ref aTD, .ref aTC, .ref aTK, .ref aTR, .ref aDY, .ref aCP, .ref aDB, .ref aCR, .ref aRK, .ref aLF, .int (nI np)], ar cI aDB 40 fDB, ar cI aCR 40 fCR, ar cI aLF 40 fLF] H := hP
  have hD : va_D A [ob aT 6 [.ref aPU, .ref aP, .int (nI nm), .int td], ar cI aPU 10 (upd fPU b ((fPU b) + (fPU a))), ob aP 3 [.ref aTD, .ref aTC, .ref aTK, .ref aTR, .ref aDY, .ref aCP, .ref aDB, .ref aCR, .ref aRK, .ref aLF, .int (nI np)], ar cI aDB 40 fDB, ar cI aCR 40 fCR, ar cI aLF 40 fLF] := hD
  refine lv_aload_n hx hb dX6_handOver_15 rfl (lv_at hl 0 rfl) ?_
  refine va_get (D := D) (ci := 6) (v := .ref aPU) (C := RX6) (T := TX6) (N := 4) hx hb hts inX6 hown hK hP 0 rfl rfl 0 (by decide) fl9 (fun _ h9 => h9) rfl dX6_handOver_16 ?_
  refine lv_iload_n hx hb dX6_handOver_19 rfl (lv_at hl 1 rfl) ?_
  refine lv_iconst (v := 0) hx hb dX6_handOver_20 (by decide) ?_
  refine m_iast (k := a) (x := 0) hx hb hK hP hD hS 1 0 rfl rfl (by omega) (by decide) dX6_handOver_21 (fun H locs hP hD hS => ?_)
  have hP : va_P D vwCl [ob aT 6 [.ref aPU, .ref aP, .int (nI nm), .int td], ar cI aPU 10 (upd (upd fPU b ((fPU b) + (fPU a))) a 0), ob aP 3 [.ref aTD, .ref aTC, .ref aTK, .ref aTR, .ref aDY, .ref aCP, .ref aDB, .ref aCR, .ref aRK, .ref aLF, .int (nI np)], ar cI aDB 40 fDB, ar cI aCR 40 fCR, ar cI aLF 40 fLF] H := hP
  have hD : va_D A [ob aT 6 [.ref aPU, .ref aP, .int (nI nm), .int td], ar cI aPU 10 (upd (upd fPU b ((fPU b) + (fPU a))) a 0), ob aP 3 [.ref aTD, .ref aTC, .ref aTK, .ref aTR, .ref aDY, .ref aCP, .ref aDB, .ref aCR, .ref aRK, .ref aLF, .int (nI np)], ar cI aDB 40 fDB, ar cI aCR 40 fCR, ar cI aLF 40 fLF] := hD
  refine lv_aload_n hx hb dX6_handOver_22 rfl (lv_at hl 0 rfl) ?_
  refine va_get (D := D) (ci := 6) (v := .ref aP) (C := RX6) (T := TX6) (N := 4) hx hb hts inX6 hown hK hP 0 rfl rfl 1 (by decide) fl18 (fun _ h9 => h9) rfl dX6_handOver_23 ?_
  refine lv_iload_n hx hb dX6_handOver_26 rfl (lv_at hl 1 rfl) ?_
  refine lv_iload_n hx hb dX6_handOver_27 rfl (lv_at hl 2 rfl) ?_
  refine m_cVv (As := [.int (nI a), .int (nI b)]) (rest := []) (wr := [ob aT 6 [.ref aPU, .ref aP, .int (nI nm), .int td], ar cI aPU 10 (upd (upd fPU b ((fPU b) + (fPU a))) a 0)]) ⟨hx, hb, hml, hown, hts⟩ (c_X3_handOver l D cI cZ aP aTD aTC aTK aTR aDY aCP aDB aCR aRK aLF fDB fCR fLF np (nI a) (nI b) (by first | assumption | omega)) (cwV 2 hts gX6_handOver_X3_handOver rfl rfl rfl (by decide +kernel) ⟨Nat.le_of_ble_eq_true rfl, Nat.le_of_ble_eq_true rfl⟩) hN hK hP hD hS hA [2, 3, 4, 5] [0, 1] rfl rfl (by decide) (by decide) (by decide) 0 (ci := 3) rfl rfl rfl rfl hl.1 rfl (Nat.le_of_ble_eq_true rfl) dX6_handOver_28 ⟨Nat.le_of_ble_eq_true rfl, Nat.le_of_ble_eq_true rfl⟩ (fun u_28 H locs hq_28 hP hD hS => ?_)
  obtain ⟨gDB_28, gCR_28, gLF_28⟩ := u_28
  have hq_28 : gDB_28 = fil (rep (nI a) (nI b) fDB) fDB np ∧ gCR_28 = fil (rep (nI a) (nI b) fCR) fCR np ∧ gLF_28 = fil (repL (nI a) (nI b) fDB fCR fLF) fLF np := hq_28
  have hP : va_P D vwCl [ob aT 6 [.ref aPU, .ref aP, .int (nI nm), .int td], ar cI aPU 10 (upd (upd fPU b ((fPU b) + (fPU a))) a 0), ob aP 3 [.ref aTD, .ref aTC, .ref aTK, .ref aTR, .ref aDY, .ref aCP, .ref aDB, .ref aCR, .ref aRK, .ref aLF, .int (nI np)], ar cI aDB 40 gDB_28, ar cI aCR 40 gCR_28, ar cI aLF 40 gLF_28] H := hP
  have hD : va_D A [ob aT 6 [.ref aPU, .ref aP, .int (nI nm), .int td], ar cI aPU 10 (upd (upd fPU b ((fPU b) + (fPU a))) a 0), ob aP 3 [.ref aTD, .ref aTC, .ref aTK, .ref aTR, .ref aDY, .ref aCP, .ref aDB, .ref aCR, .ref aRK, .ref aLF, .int (nI np)], ar cI aDB 40 gDB_28, ar cI aCR 40 gCR_28, ar cI aLF 40 gLF_28] := hD
  exact ret ((upd (upd fPU b ((fPU b) + (fPU a))) a 0), gDB_28, gCR_28, gLF_28) _ _ _ _ dX6_handOver_31 (⟨rfl, hq_28⟩) (hP) (hD) hS
abbrev r_c_X6_carryOut : Room := { frames := 0, cells := 0, slots := 0, locals := 0 }
set_option maxHeartbeats 4000000 in
set_option maxRecDepth 100000 in
theorem c_X6_carryOut (l : Launch) (D : va_G) (cI cZ : ClassId) (aT : Nat) (aPU : Nat) (aP : Nat) (aTD : Nat) (aTC : Nat) (aTK : Nat) (aTR : Nat) (aDY : Nat) (aCP : Nat) (aDB : Nat) (aCR : Nat) (aRK : Nat) (aLF : Nat) (aC : Nat) (aPD : Nat) (aOR : Nat) (aHS : Nat) (aUN : Nat) (aFA : Nat) (aLO : Nat) (aLA : Nat) (fPU : Nat → Int32) (fLF : Nat → Int32) (fHS : Nat → Int32) (fPD : Nat → Int32) (nm : Nat) (td : Int32) (np : Nat) (cm : Int32) (cpn : Int32) (cr : Int32) (hnm : nm ≤ 10) (hnp : np ≤ 40) : MV l yX6_carryOut wsX6_carryOut r_c_X6_carryOut D cI cZ [.ref aT, .ref aC] [ob aT 6 [.ref aPU, .ref aP, .int (nI nm), .int td], ar cI aPU 10 fPU, ob aP 3 [.ref aTD, .ref aTC, .ref aTK, .ref aTR, .ref aDY, .ref aCP, .ref aDB, .ref aCR, .ref aRK, .ref aLF, .int (nI np)], ar cI aLF 40 fLF, ob aC 1 [.ref aPD, .ref aOR, .ref aHS, .ref aUN, .ref aFA, .ref aLO, .ref aLA, .int cm, .int cpn, .int cr], ar cI aHS 10 fHS, ar cI aPD 40 fPD] (fun (u : (Nat → Int32) × (Nat → Int32)) => u.1 = fil fHS fPU nm ∧ u.2 = fil (fun j => fLF j - fPD j) fLF np) (fun (u : (Nat → Int32) × (Nat → Int32)) => [ob aT 6 [.ref aPU, .ref aP, .int (nI nm), .int td], ar cI aPU 10 u.1, ob aP 3 [.ref aTD, .ref aTC, .ref aTK, .ref aTR, .ref aDY, .ref aCP, .ref aDB, .ref aCR, .ref aRK, .ref aLF, .int (nI np)], ar cI aLF 40 u.2, ob aC 1 [.ref aPD, .ref aOR, .ref aHS, .ref aUN, .ref aFA, .ref aLO, .ref aLA, .int cm, .int cpn, .int cr], ar cI aHS 10 fHS, ar cI aPD 40 fPD]) 0 0 := by
  refine MV.of (cc := cX6_carryOut) (maxL := 3) (by decide) rfl (Nat.le_of_ble_eq_true rfl) ?_
  intro p e s m below meth c A Q hx hb hml hown hts hN hK hA ret hP hD hS ls hl hmn
  have hown : s.vm.findClass RX6 = some m.cls := hown
  have inX1 : ∀ w ∈ wsX10, w ∈ wsX6_carryOut := by decide +kernel
  have inX3 : ∀ w ∈ wsX30, w ∈ wsX6_carryOut := by decide +kernel
  have inX6 : ∀ w ∈ wsX60, w ∈ wsX6_carryOut := by decide +kernel
  have fl9 := hts (.fieldLink RX6 9 "AdvanceBook$Town" "purses" "[I") (by decide +kernel)
  have fl18 := hts (.fieldLink RX6 18 "AdvanceBook$Town" "papers" "LAdvanceBook$Papers;") (by decide +kernel)
  have fl22 := hts (.fieldLink RX6 22 "AdvanceBook$Town" "men" "I") (by decide +kernel)
  have fl39 : (Cond.fieldLinkNest RX6 39 "AdvanceBook$Clearing" "has" "[I" "AdvanceBook").before (([.ref aT, .ref aC] : List Value).toArray) s = true := nest_useF hN (by decide +kernel)
  have fl44 : (Cond.fieldLinkNest RX6 44 "AdvanceBook$Papers" "size" "I" "AdvanceBook").before (([.ref aT, .ref aC] : List Value).toArray) s = true := nest_useF hN (by decide +kernel)
  have fl47 : (Cond.fieldLinkNest RX6 47 "AdvanceBook$Papers" "lefts" "[I" "AdvanceBook").before (([.ref aT, .ref aC] : List Value).toArray) s = true := nest_useF hN (by decide +kernel)
  have fl50 : (Cond.fieldLinkNest RX6 50 "AdvanceBook$Clearing" "paid" "[I" "AdvanceBook").before (([.ref aT, .ref aC] : List Value).toArray) s = true := nest_useF hN (by decide +kernel)
  have hP : va_P D vwCl [ob aT 6 [.ref aPU, .ref aP, .int (nI nm), .int td], ar cI aPU 10 fPU, ob aP 3 [.ref aTD, .ref aTC, .ref aTK, .ref aTR, .ref aDY, .ref aCP, .ref aDB, .ref aCR, .ref aRK, .ref aLF, .int (nI np)], ar cI aLF 40 fLF, ob aC 1 [.ref aPD, .ref aOR, .ref aHS, .ref aUN, .ref aFA, .ref aLO, .ref aLA, .int cm, .int cpn, .int cr], ar cI aHS 10 fHS, ar cI aPD 40 fPD] s.heap := hP
  have hD : va_D A [ob aT 6 [.ref aPU, .ref aP, .int (nI nm), .int td], ar cI aPU 10 fPU, ob aP 3 [.ref aTD, .ref aTC, .ref aTK, .ref aTR, .ref aDY, .ref aCP, .ref aDB, .ref aCR, .ref aRK, .ref aLF, .int (nI np)], ar cI aLF 40 fLF, ob aC 1 [.ref aPD, .ref aOR, .ref aHS, .ref aUN, .ref aFA, .ref aLO, .ref aLA, .int cm, .int cpn, .int cr], ar cI aHS 10 fHS, ar cI aPD 40 fPD] := hD
  have hl : lv_has ls 3 [(0, .ref aT), (1, .ref aC)] := hl
  refine lv_iconst (v := 0) hx hb dX6_carryOut_0 (by decide) ?_
  refine lv_istore_n (lv' := [(2, .int 0), (0, .ref aT), (1, .ref aC)]) hx hb dX6_carryOut_1 rfl hl (by decide) rfl (fun ls hl => ?_)
  have L_2 : ∀ (n : Nat) (k : Nat) (h : Nat → Int32), (nm - k < n) → (k ≤ nm) → (h = fil fHS fPU k) → ∀ (H : Heap) (locs : List Loc), va_P D vwCl [ob aT 6 [.ref aPU, .ref aP, .int (nI nm), .int td], ar cI aPU 10 h, ob aP 3 [.ref aTD, .ref aTC, .ref aTK, .ref aTR, .ref aDY, .ref aCP, .ref aDB, .ref aCR, .ref aRK, .ref aLF, .int (nI np)], ar cI aLF 40 fLF, ob aC 1 [.ref aPD, .ref aOR, .ref aHS, .ref aUN, .ref aFA, .ref aLO, .ref aLA, .int cm, .int cpn, .int cr], ar cI aHS 10 fHS, ar cI aPD 40 fPD] H → va_D A [ob aT 6 [.ref aPU, .ref aP, .int (nI nm), .int td], ar cI aPU 10 h, ob aP 3 [.ref aTD, .ref aTC, .ref aTK, .ref aTR, .ref aDY, .ref aCP, .ref aDB, .ref aCR, .ref aRK, .ref aLF, .int (nI np)], ar cI aLF 40 fLF, ob aC 1 [.ref aPD, .ref aOR, .ref aHS, .ref aUN, .ref aFA, .ref aLO, .ref aLA, .int cm, .int cpn, .int cr], ar cI aHS 10 fHS, ar cI aPD 40 fPD] → va_S A s.heap H locs → ∀ ls : Array Slot, lv_has ls 3 [(0, .ref aT), (1, .ref aC), (2, .int (nI k))] → W p l e r_c_X6_carryOut s m (([.ref aT, .ref aC] : List Value).toArray) below meth c H locs 0 0 Q (F0 m 2 ls []) := by
    intro n
    induction n with
    | zero => intro k h hfu; exact absurd hfu (Nat.not_lt_zero _)
    | succ n ih =>
      intro k h hfu hk hh H locs hP hD hS ls hl
      refine lv_iload_n hx hb dX6_carryOut_2 rfl (lv_at hl 2 rfl) ?_
      refine lv_aload_n hx hb dX6_carryOut_3 rfl (lv_at hl 0 rfl) ?_
      refine va_get (D := D) (ci := 6) (v := .int (nI nm)) (C := RX6) (T := TX6) (N := 4) hx hb hts inX6 hown hK hP 0 rfl rfl 2 (by decide) fl22 (fun _ h9 => h9) rfl dX6_carryOut_4 ?_
      refine lv_icmp_ge (tgt := 28) hx hb dX6_carryOut_7 (by decide) (fun c_7 => ?_) (fun c_7 => ?_)
      · skip
        have k_7 : nm ≤ k := (nI_leI (a := nm) (b := k) (by omega) (by omega)).mp c_7
        refine lv_iconst (v := 0) hx hb dX6_carryOut_28 (by decide) ?_
        refine lv_istore_n (lv' := [(2, .int 0), (0, .ref aT), (1, .ref aC)]) hx hb dX6_carryOut_29 rfl hl (by decide) rfl (fun ls hl => ?_)
        have L_30 : ∀ (n : Nat) (j : Nat) (h2 : Nat → Int32), (np - j < n) → (j ≤ np) → (h2 = fil (fun j => fLF j - fPD j) fLF j) → ∀ (H : Heap) (locs : List Loc), va_P D vwCl [ob aT 6 [.ref aPU, .ref aP, .int (nI nm), .int td], ar cI aPU 10 h, ob aP 3 [.ref aTD, .ref aTC, .ref aTK, .ref aTR, .ref aDY, .ref aCP, .ref aDB, .ref aCR, .ref aRK, .ref aLF, .int (nI np)], ar cI aLF 40 h2, ob aC 1 [.ref aPD, .ref aOR, .ref aHS, .ref aUN, .ref aFA, .ref aLO, .ref aLA, .int cm, .int cpn, .int cr], ar cI aHS 10 fHS, ar cI aPD 40 fPD] H → va_D A [ob aT 6 [.ref aPU, .ref aP, .int (nI nm), .int td], ar cI aPU 10 h, ob aP 3 [.ref aTD, .ref aTC, .ref aTK, .ref aTR, .ref aDY, .ref aCP, .ref aDB, .ref aCR, .ref aRK, .ref aLF, .int (nI np)], ar cI aLF 40 h2, ob aC 1 [.ref aPD, .ref aOR, .ref aHS, .ref aUN, .ref aFA, .ref aLO, .ref aLA, .int cm, .int cpn, .int cr], ar cI aHS 10 fHS, ar cI aPD 40 fPD] → va_S A s.heap H locs → ∀ ls : Array Slot, lv_has ls 3 [(0, .ref aT), (1, .ref aC), (2, .int (nI j))] → W p l e r_c_X6_carryOut s m (([.ref aT, .ref aC] : List Value).toArray) below meth c H locs 0 0 Q (F0 m 30 ls []) := by
          intro n
          induction n with
          | zero => intro j h2 hfu; exact absurd hfu (Nat.not_lt_zero _)
          | succ n ih =>
            intro j h2 hfu hj hh2 H locs hP hD hS ls hl
            refine lv_iload_n hx hb dX6_carryOut_30 rfl (lv_at hl 2 rfl) ?_
            refine lv_aload_n hx hb dX6_carryOut_31 rfl (lv_at hl 0 rfl) ?_
            refine va_get (D := D) (ci := 6) (v := .ref aP) (C := RX6) (T := TX6) (N := 4) hx hb hts inX6 hown hK hP 0 rfl rfl 1 (by decide) fl18 (fun _ h9 => h9) rfl dX6_carryOut_32 ?_
            refine va_getN (D := D) (ci := 3) (v := .int (nI np)) (C := RX3) (T := TX3) (N := 11) hx hb hts inX3 hown hK hP 2 rfl rfl 10 (by decide) fl44 (fun _ h9 => h9) rfl dX6_carryOut_35 ?_
            refine lv_icmp_ge (tgt := 65) hx hb dX6_carryOut_38 (by decide) (fun c_38 => ?_) (fun c_38 => ?_)
            · skip
              have k_38 : np ≤ j := (nI_leI (a := np) (b := j) (by omega) (by omega)).mp c_38
              exact ret (h, h2) _ _ _ _ dX6_carryOut_65 (by have e : k = nm := (by omega); have e2 : j = np := (by omega); subst e; subst e2; exact ⟨hh, hh2⟩) (hP) (hD) hS
            · skip
              have k_38 : ¬ np ≤ j := fun h9 => c_38 ((nI_leI (a := np) (b := j) (by omega) (by omega)).mpr h9)
              refine lv_aload_n hx hb dX6_carryOut_41 rfl (lv_at hl 0 rfl) ?_
              refine va_get (D := D) (ci := 6) (v := .ref aP) (C := RX6) (T := TX6) (N := 4) hx hb hts inX6 hown hK hP 0 rfl rfl 1 (by decide) fl18 (fun _ h9 => h9) rfl dX6_carryOut_42 ?_
              refine va_getN (D := D) (ci := 3) (v := .ref aLF) (C := RX3) (T := TX3) (N := 11) hx hb hts inX3 hown hK hP 2 rfl rfl 9 (by decide) fl47 (fun _ h9 => h9) rfl dX6_carryOut_45 ?_
              refine lv_iload_n hx hb dX6_carryOut_48 rfl (lv_at hl 2 rfl) ?_
              refine lv_dup2_11 hx hb dX6_carryOut_49 rfl rfl ?_
              refine m_iald (k := j) hx hb hK hP 3 0 rfl rfl (by omega) (by decide) dX6_carryOut_50 ?_
              refine lv_aload_n hx hb dX6_carryOut_51 rfl (lv_at hl 1 rfl) ?_
              refine va_getN (D := D) (ci := 1) (v := .ref aPD) (C := RX1) (T := TX1) (N := 10) hx hb hts inX1 hown hK hP 4 rfl rfl 0 (by decide) fl50 (fun _ h9 => h9) rfl dX6_carryOut_52 ?_
              refine lv_iload_n hx hb dX6_carryOut_55 rfl (lv_at hl 2 rfl) ?_
              refine m_iald (k := j) hx hb hK hP 6 0 rfl rfl (by omega) (by decide) dX6_carryOut_56 ?_
              refine lv_isub hx hb dX6_carryOut_57 ?_
              refine m_iast (k := j) (x := ((h2 j) - (fPD j))) hx hb hK hP hD hS 3 0 rfl rfl (by omega) (by decide) dX6_carryOut_58 (fun H locs hP hD hS => ?_)
              have hP : va_P D vwCl [ob aT 6 [.ref aPU, .ref aP, .int (nI nm), .int td], ar cI aPU 10 h, ob aP 3 [.ref aTD, .ref aTC, .ref aTK, .ref aTR, .ref aDY, .ref aCP, .ref aDB, .ref aCR, .ref aRK, .ref aLF, .int (nI np)], ar cI aLF 40 (upd h2 j ((h2 j) - (fPD j))), ob aC 1 [.ref aPD, .ref aOR, .ref aHS, .ref aUN, .ref aFA, .ref aLO, .ref aLA, .int cm, .int cpn, .int cr], ar cI aHS 10 fHS, ar cI aPD 40 fPD] H := hP
              have hD : va_D A [ob aT 6 [.ref aPU, .ref aP, .int (nI nm), .int td], ar cI aPU 10 h, ob aP 3 [.ref aTD, .ref aTC, .ref aTK, .ref aTR, .ref aDY, .ref aCP, .ref aDB, .ref aCR, .ref aRK, .ref aLF, .int (nI np)], ar cI aLF 40 (upd h2 j ((h2 j) - (fPD j))), ob aC 1 [.ref aPD, .ref aOR, .ref aHS, .ref aUN, .ref aFA, .ref aLO, .ref aLA, .int cm, .int cpn, .int cr], ar cI aHS 10 fHS, ar cI aPD 40 fPD] := hD
              refine lv_iinc (v := (nI (j + 1))) (lv' := [(2, .int (nI (j + 1))), (0, .ref aT), (1, .ref aC)]) hx hb dX6_carryOut_59 hl (k := 2) rfl (nI_inc j 1 (by decide)) (by decide) rfl (fun ls hl => ?_)
              refine lv_goto (tgt := 30) hx hb dX6_carryOut_62 (by decide) ?_
              exact ih (j + 1) (upd h2 j ((h2 j) - (fPD j))) (by omega) (by omega) (fil_step hh2 (by rw [fil_at hh2])) _ _ (hP) (hD) hS ls (lv_sub hl [1, 2, 0] rfl)
        exact L_30 ((np - 0) + 1) 0 fLF (Nat.lt_succ_self _) (by omega) (fil_0.symm) _ _ (hP) (hD) hS ls (lv_sub hl [1, 2, 0] rfl)
      · skip
        have k_7 : ¬ nm ≤ k := fun h9 => c_7 ((nI_leI (a := nm) (b := k) (by omega) (by omega)).mpr h9)
        refine lv_aload_n hx hb dX6_carryOut_10 rfl (lv_at hl 0 rfl) ?_
        refine va_get (D := D) (ci := 6) (v := .ref aPU) (C := RX6) (T := TX6) (N := 4) hx hb hts inX6 hown hK hP 0 rfl rfl 0 (by decide) fl9 (fun _ h9 => h9) rfl dX6_carryOut_11 ?_
        refine lv_iload_n hx hb dX6_carryOut_14 rfl (lv_at hl 2 rfl) ?_
        refine lv_aload_n hx hb dX6_carryOut_15 rfl (lv_at hl 1 rfl) ?_
        refine va_getN (D := D) (ci := 1) (v := .ref aHS) (C := RX1) (T := TX1) (N := 10) hx hb hts inX1 hown hK hP 4 rfl rfl 2 (by decide) fl39 (fun _ h9 => h9) rfl dX6_carryOut_16 ?_
        refine lv_iload_n hx hb dX6_carryOut_19 rfl (lv_at hl 2 rfl) ?_
        refine m_iald (k := k) hx hb hK hP 5 0 rfl rfl (by omega) (by decide) dX6_carryOut_20 ?_
        refine m_iast (k := k) (x := (fHS k)) hx hb hK hP hD hS 1 0 rfl rfl (by omega) (by decide) dX6_carryOut_21 (fun H locs hP hD hS => ?_)
        have hP : va_P D vwCl [ob aT 6 [.ref aPU, .ref aP, .int (nI nm), .int td], ar cI aPU 10 (upd h k (fHS k)), ob aP 3 [.ref aTD, .ref aTC, .ref aTK, .ref aTR, .ref aDY, .ref aCP, .ref aDB, .ref aCR, .ref aRK, .ref aLF, .int (nI np)], ar cI aLF 40 fLF, ob aC 1 [.ref aPD, .ref aOR, .ref aHS, .ref aUN, .ref aFA, .ref aLO, .ref aLA, .int cm, .int cpn, .int cr], ar cI aHS 10 fHS, ar cI aPD 40 fPD] H := hP
        have hD : va_D A [ob aT 6 [.ref aPU, .ref aP, .int (nI nm), .int td], ar cI aPU 10 (upd h k (fHS k)), ob aP 3 [.ref aTD, .ref aTC, .ref aTK, .ref aTR, .ref aDY, .ref aCP, .ref aDB, .ref aCR, .ref aRK, .ref aLF, .int (nI np)], ar cI aLF 40 fLF, ob aC 1 [.ref aPD, .ref aOR, .ref aHS, .ref aUN, .ref aFA, .ref aLO, .ref aLA, .int cm, .int cpn, .int cr], ar cI aHS 10 fHS, ar cI aPD 40 fPD] := hD
        refine lv_iinc (v := (nI (k + 1))) (lv' := [(2, .int (nI (k + 1))), (0, .ref aT), (1, .ref aC)]) hx hb dX6_carryOut_22 hl (k := 2) rfl (nI_inc k 1 (by decide)) (by decide) rfl (fun ls hl => ?_)
        refine lv_goto (tgt := 2) hx hb dX6_carryOut_25 (by decide) ?_
        exact ih (k + 1) (upd h k (fHS k)) (by omega) (by omega) (fil_step hh rfl) _ _ (hP) (hD) hS ls (lv_sub hl [1, 2, 0] rfl)
  exact L_2 ((nm - 0) + 1) 0 fPU (Nat.lt_succ_self _) (by omega) (fil_0.symm) _ _ (hP) (hD) hS ls (lv_sub hl [1, 2, 0] rfl)
