/-! THREAD: the moves, one after another -/
abbrev BS : Type := (Nat → Int32) × List (Nat × Nat × Int32)
def mn (z : Nat → Int32) (p g : Nat) : Int32 := if z g < -(z p) then z g else -(z p)
def mvz (z : Nat → Int32) (p g : Nat) : Nat → Int32 := upd (upd z p (z p + mn z p g)) g (upd z p (z p + mn z p g) g - mn z p g)
def stp (s : BS) (p g : Nat) : BS := if s.1 p < 0 ∧ 0 < s.1 g then (mvz s.1 p g, s.2 ++ [(p, g, mn s.1 p g)]) else s
def rowR (p : Nat) : Nat → Nat → BS → BS
  | 0, _, s => s
  | c + 1, g, s => rowR p c (g + 1) (stp s p g)
def allR (nm : Nat) : Nat → Nat → BS → BS
  | 0, _, s => s
  | c + 1, p, s => allR nm c (p + 1) (rowR p nm 0 s)
theorem stp_idle {s : BS} {p g : Nat} (h : ¬ (s.1 p < 0 ∧ 0 < s.1 g)) : stp s p g = s := by unfold stp; rw [if_neg h]
theorem rowR_idle {p : Nat} : ∀ {c g : Nat} {s : BS}, ¬ s.1 p < 0 → rowR p c g s = s
  | 0, _, _, _ => rfl
  | c + 1, g, s, h => by
    unfold rowR
    rw [stp_idle (fun q => h q.1)]
    exact rowR_idle h
theorem rowR_step {p nm g : Nat} {s : BS} (h : g < nm) : rowR p (nm - g) g s = rowR p (nm - (g + 1)) (g + 1) (stp s p g) := by
  have e : nm - g = (nm - (g + 1)) + 1 := by omega
  rw [e]; rfl
theorem allR_step {nm p : Nat} {s : BS} (h : p < nm) : allR nm (nm - p) p s = allR nm (nm - p - 1) (p + 1) (rowR p (nm - 0) 0 s) := by
  have e : nm - p = (nm - p - 1) + 1 := by omega
  rw [e]; rfl
/-- the two agree below nm, and hold the same moves -/
def agr (nm : Nat) (s t : BS) : Prop := (∀ j, j < nm → s.1 j = t.1 j) ∧ s.2 = t.2
theorem stp_agr {nm p g : Nat} {s t : BS} (h : agr nm s t) (hp : p < nm) (hg : g < nm) : agr nm (stp s p g) (stp t p g) := by
  obtain ⟨h1, h2⟩ := h
  have e1 := h1 p hp
  have e2 := h1 g hg
  unfold stp
  rw [e1, e2]
  split
  · refine ⟨fun j hj => ?_, ?_⟩
    · have e3 := h1 j hj
      simp only [mvz, upd, mn, e1, e2, e3]
    · simp only [mn, e1, e2, h2]
  · exact ⟨h1, h2⟩
theorem rowR_agr {nm p : Nat} (hp : p < nm) : ∀ {c g : Nat} {s t : BS}, g + c ≤ nm → agr nm s t → agr nm (rowR p c g s) (rowR p c g t)
  | 0, _, _, _, _, h => h
  | c + 1, g, s, t, hc, h => by
    unfold rowR
    exact rowR_agr hp (by omega) (stp_agr h hp (by omega))
theorem allR_agr {nm : Nat} : ∀ {c p : Nat} {s t : BS}, p + c ≤ nm → agr nm s t → agr nm (allR nm c p s) (allR nm c p t)
  | 0, _, _, _, _, h => h
  | c + 1, p, s, t, hc, h => by
    unfold allR
    exact allR_agr (by omega) (rowR_agr (by omega) (by omega) h)
theorem agr_fil {f g h : Nat → Int32} {n : Nat} {L : List (Nat × Nat × Int32)} (e : h = fil f g n) : agr n (h, L) (f, L) := ⟨fun j hj => by subst e; simp [fil, hj], rfl⟩
/-- how many of the first n are not 0 -/
def nz (z : Nat → Int32) : Nat → Nat
  | 0 => 0
  | n + 1 => nz z n + (if z n = 0 then 0 else 1)
theorem nz_le (z : Nat → Int32) : ∀ n, nz z n ≤ n
  | 0 => Nat.le_refl _
  | n + 1 => by have := nz_le z n; unfold nz; split <;> omega
theorem nz_congr {z y : Nat → Int32} : ∀ {n : Nat}, (∀ j, j < n → z j = y j) → nz z n = nz y n
  | 0, _ => rfl
  | n + 1, h => by unfold nz; rw [nz_congr (fun j hj => h j (by omega)), h n (by omega)]
theorem nz_pos {z : Nat → Int32} {k : Nat} : ∀ {n : Nat}, k < n → ¬ z k = 0 → 1 ≤ nz z n
  | 0, h, _ => absurd h (Nat.not_lt_zero _)
  | n + 1, h, hz => by
    unfold nz
    rcases Nat.lt_or_ge k n with q | q
    · have := nz_pos q hz; omega
    · have e : k = n := by omega
      subst e; rw [if_neg hz]; omega
theorem nz_upd {z : Nat → Int32} {k : Nat} {x : Int32} : ∀ {n : Nat}, k < n → ¬ z k = 0 → nz (upd z k x) n + 1 = nz z n + (if x = 0 then 0 else 1)
  | 0, h, _ => absurd h (Nat.not_lt_zero _)
  | n + 1, h, hz => by
    unfold nz
    rcases Nat.lt_or_ge k n with q | q
    · have h1 := nz_upd (x := x) q hz
      have e : upd z k x n = z n := pk_un (by omega)
      rw [e]; omega
    · have e : k = n := by omega
      subst e
      have e1 : upd z k x k = x := pk_us
      have e2 : nz (upd z k x) k = nz z k := nz_congr (fun j hj => pk_un (by omega))
      rw [e1, e2, if_neg hz]; omega
theorem i32_neg_ne {x : Int32} (h : x < 0) : ¬ x = 0 := by intro e; subst e; exact absurd h (by decide)
theorem i32_pos_ne {x : Int32} (h : 0 < x) : ¬ x = 0 := by intro e; subst e; exact absurd h (by decide)
theorem i32_np {z : Nat → Int32} {p g : Nat} (h1 : z p < 0) (h2 : 0 < z g) : p ≠ g := by
  intro e; subst e
  rw [Int32.lt_iff_toInt_lt] at h1 h2
  omega
theorem nz_mvz {z : Nat → Int32} {n p g : Nat} (hp : p < n) (hg : g < n) (h1 : z p < 0) (h2 : 0 < z g) : nz (mvz z p g) n + 1 ≤ nz z n := by
  have hne := i32_np h1 h2
  have e1 := nz_upd (x := z p + mn z p g) hp (i32_neg_ne h1)
  have hg2 : upd z p (z p + mn z p g) g = z g := pk_un (fun e => hne e.symm)
  have e2 := nz_upd (z := upd z p (z p + mn z p g)) (x := upd z p (z p + mn z p g) g - mn z p g) hg (by rw [hg2]; exact i32_pos_ne h2)
  unfold mvz
  rw [hg2] at e2 ⊢
  by_cases hc : z g < -(z p)
  · have e3 : mn z p g = z g := by unfold mn; rw [if_pos hc]
    rw [e3] at e1 e2 ⊢
    rw [Int32.sub_self] at e2 ⊢
    rw [if_pos rfl] at e2
    split at e1 <;> omega
  · have e3 : mn z p g = -(z p) := by unfold mn; rw [if_neg hc]
    rw [e3] at e1 e2 ⊢
    rw [Int32.add_right_neg] at e1 e2 ⊢
    rw [if_pos rfl] at e1
    split at e2 <;> omega
def holdsL (PY GT CO : Nat → Int32) (L : List (Nat × Nat × Int32)) : Prop := ∀ (i : Nat) (q : Nat × Nat × Int32), L[i]? = some q → PY i = nI q.1 ∧ GT i = nI q.2.1 ∧ CO i = q.2.2
theorem holdsL_push {PY GT CO : Nat → Int32} {L : List (Nat × Nat × Int32)} (h : holdsL PY GT CO L) {b : Nat} (hb : b = L.length) (p g : Nat) (c : Int32) : holdsL (upd PY b (nI p)) (upd GT b (nI g)) (upd CO b c) (L ++ [(p, g, c)]) := by
  intro i q hq
  subst hb
  rcases Nat.lt_or_ge i L.length with hi | hi
  · rw [List.getElem?_append_left hi] at hq
    obtain ⟨h1, h2, h3⟩ := h i q hq
    have hne : i ≠ L.length := by omega
    exact ⟨by rw [pk_un hne, h1], by rw [pk_un hne, h2], by rw [pk_un hne, h3]⟩
  · have e : i = L.length := by
      have := (List.getElem?_eq_some_iff.mp hq).1
      simp at this; omega
    subst e
    simp at hq
    subst hq
    exact ⟨pk_us, pk_us, pk_us⟩
abbrev netsF (c d f : Nat → Int32) (np : Nat) : Nat → Int32 := fun m => netS c d f (nI m) np
abbrev movesL (c d f : Nat → Int32) (np nm : Nat) : List (Nat × Nat × Int32) := (allR nm nm 0 (netsF c d f np, [])).2
def tellB (PY GT CO : Nat → Int32) (b : Nat) (k x : Int32) : Int32 :=
  if 0 ≤ k ∧ k < nI b then (if x = 0 then PY (ix k) else if x = 1 then GT (ix k) else if x = 2 then CO (ix k) else -1) else -1
theorem vp_in_range {k : Int32} {n N : Nat} (h0 : ¬ k < 0) (h1 : k < nI n) (hn : n ≤ N) (hN : N < 2 ^ 31) : vp_in k N := by
  rw [vp_in_iff]
  rw [Int32.lt_iff_toInt_lt] at h0 h1
  rw [nI_toInt (by omega)] at h1
  have e0 : (0 : Int32).toInt = 0 := by decide
  rw [e0] at h0
  omega

abbrev r_c_X0_addMove : Room := { frames := 1, cells := 0, slots := 0, locals := 13 }
set_option maxHeartbeats 4000000 in
set_option maxRecDepth 100000 in
theorem c_X0_addMove (l : Launch) (D : va_G) (cI cZ : ClassId) (aB : Nat) (aOP : Nat) (aPY : Nat) (aGT : Nat) (aCO : Nat) (fOP : Nat → Int32) (fPY : Nat → Int32) (fGT : Nat → Int32) (fCO : Nat → Int32) (bm : Nat) (pa : Nat) (ge : Nat) (hbm : bm < 10) (hpa : pa < 10) (hge : ge < 10) : MV l yX0_addMove wsX0_addMove r_c_X0_addMove D cI cZ [.ref aB, .int (nI pa), .int (nI ge)] [ob aB 0 [.ref aOP, .ref aPY, .ref aGT, .ref aCO, .int (nI bm)], ar cI aOP 10 fOP, ar cI aPY 10 fPY, ar cI aGT 10 fGT, ar cI aCO 10 fCO] (fun (u : (Nat → Int32) × (Nat → Int32) × (Nat → Int32) × (Nat → Int32)) => u.1 = mvz fOP pa ge ∧ u.2.1 = upd fPY bm (nI pa) ∧ u.2.2.1 = upd fGT bm (nI ge) ∧ u.2.2.2 = upd fCO bm (mn fOP pa ge)) (fun (u : (Nat → Int32) × (Nat → Int32) × (Nat → Int32) × (Nat → Int32)) => [ob aB 0 [.ref aOP, .ref aPY, .ref aGT, .ref aCO, .int (nI (bm + 1))], ar cI aOP 10 u.1, ar cI aPY 10 u.2.1, ar cI aGT 10 u.2.2.1, ar cI aCO 10 u.2.2.2]) 0 0 := by
  refine MV.of (cc := cX0_addMove) (maxL := 4) (by decide) rfl (Nat.le_of_ble_eq_true rfl) ?_
  intro p e s m below meth c A Q hx hb hml hown hts hN hK hA ret hP hD hS ls hl hmn
  have hown : s.vm.findClass RX0 = some m.cls := hown
  have inX0 : ∀ w ∈ wsX00, w ∈ wsX0_addMove := by decide +kernel
  have fl9 := hts (.fieldLink RX0 9 "AdvanceBook$Balance" "open" "[I") (by decide +kernel)
  have fl15 := hts (.fieldLink RX0 15 "AdvanceBook$Balance" "payers" "[I") (by decide +kernel)
  have fl18 := hts (.fieldLink RX0 18 "AdvanceBook$Balance" "getters" "[I") (by decide +kernel)
  have fl21 := hts (.fieldLink RX0 21 "AdvanceBook$Balance" "coins" "[I") (by decide +kernel)
  have fl24 := hts (.fieldLink RX0 24 "AdvanceBook$Balance" "moves" "I") (by decide +kernel)
  have hP : va_P D vwCl [ob aB 0 [.ref aOP, .ref aPY, .ref aGT, .ref aCO, .int (nI bm)], ar cI aOP 10 fOP, ar cI aPY 10 fPY, ar cI aGT 10 fGT, ar cI aCO 10 fCO] s.heap := hP
  have hD : va_D A [ob aB 0 [.ref aOP, .ref aPY, .ref aGT, .ref aCO, .int (nI bm)], ar cI aOP 10 fOP, ar cI aPY 10 fPY, ar cI aGT 10 fGT, ar cI aCO 10 fCO] := hD
  have hl : lv_has ls 4 [(0, .ref aB), (1, .int (nI pa)), (2, .int (nI ge))] := hl
  refine lv_aload_n hx hb dX0_addMove_0 rfl (lv_at hl 0 rfl) ?_
  refine va_get (D := D) (ci := 0) (v := .int (nI bm)) (C := RX0) (T := TX0) (N := 5) hx hb hts inX0 hown hK hP 0 rfl rfl 4 (by decide) fl24 (fun _ h9 => h9) rfl dX0_addMove_1 ?_
  refine lv_bipush (v := 10) hx hb dX0_addMove_4 (by decide) ?_
  refine lv_icmp_lt (tgt := 10) hx hb dX0_addMove_6 (by decide) (fun c_6 => ?_) (fun c_6 => ?_)
  · skip
    have k_6 : bm < 10 := (nI_ltI (a := bm) (b := 10) (by omega) (by omega)).mp c_6
    refine lv_aload_n hx hb dX0_addMove_10 rfl (lv_at hl 0 rfl) ?_
    refine va_get (D := D) (ci := 0) (v := .ref aOP) (C := RX0) (T := TX0) (N := 5) hx hb hts inX0 hown hK hP 0 rfl rfl 0 (by decide) fl9 (fun _ h9 => h9) rfl dX0_addMove_11 ?_
    refine lv_iload_n hx hb dX0_addMove_14 rfl (lv_at hl 1 rfl) ?_
    refine m_iald (k := pa) hx hb hK hP 1 0 rfl rfl (by omega) (by decide) dX0_addMove_15 ?_
    refine lv_ineg hx hb dX0_addMove_16 ?_
    refine lv_aload_n hx hb dX0_addMove_17 rfl (lv_at hl 0 rfl) ?_
    refine va_get (D := D) (ci := 0) (v := .ref aOP) (C := RX0) (T := TX0) (N := 5) hx hb hts inX0 hown hK hP 0 rfl rfl 0 (by decide) fl9 (fun _ h9 => h9) rfl dX0_addMove_18 ?_
    refine lv_iload_n hx hb dX0_addMove_21 rfl (lv_at hl 2 rfl) ?_
    refine m_iald (k := ge) hx hb hK hP 1 0 rfl rfl (by omega) (by decide) dX0_addMove_22 ?_
    refine va_mmin hx hb (by rw [hml]; exact hl.1.symm) hown (hts (.methodLink RX0 47 Lib.Math.min.name) (by decide +kernel)) (hts (.static Lib.Math.min.name) (by decide +kernel)) (hts (.initialized "java/lang/Math") (by decide +kernel)) (hts (.code Lib.Math.min.name Lib.Math.min.code 2 (some .int)) (by decide +kernel)) (Nat.le_of_ble_eq_true rfl) (Nat.le_of_ble_eq_true rfl) (Nat.le_of_ble_eq_true rfl) (Nat.le_of_ble_eq_true rfl) dX0_addMove_23 ?_
    refine lv_istore_n (lv' := [(3, .int (if (fOP ge) < (-(fOP pa)) then (fOP ge) else (-(fOP pa)))), (0, .ref aB), (1, .int (nI pa)), (2, .int (nI ge))]) hx hb dX0_addMove_26 rfl hl (by decide) rfl (fun ls hl => ?_)
    refine lv_aload_n hx hb dX0_addMove_27 rfl (lv_at hl 1 rfl) ?_
    refine va_get (D := D) (ci := 0) (v := .ref aOP) (C := RX0) (T := TX0) (N := 5) hx hb hts inX0 hown hK hP 0 rfl rfl 0 (by decide) fl9 (fun _ h9 => h9) rfl dX0_addMove_28 ?_
    refine lv_iload_n hx hb dX0_addMove_31 rfl (lv_at hl 2 rfl) ?_
    refine lv_dup2_11 hx hb dX0_addMove_32 rfl rfl ?_
    refine m_iald (k := pa) hx hb hK hP 1 0 rfl rfl (by omega) (by decide) dX0_addMove_33 ?_
    refine lv_iload_n hx hb dX0_addMove_34 rfl (lv_at hl 0 rfl) ?_
    refine lv_iadd hx hb dX0_addMove_35 ?_
    refine m_iast (k := pa) (x := ((fOP pa) + (if (fOP ge) < (-(fOP pa)) then (fOP ge) else (-(fOP pa))))) hx hb hK hP hD hS 1 0 rfl rfl (by omega) (by decide) dX0_addMove_36 (fun H locs hP hD hS => ?_)
    have hP : va_P D vwCl [ob aB 0 [.ref aOP, .ref aPY, .ref aGT, .ref aCO, .int (nI bm)], ar cI aOP 10 (upd fOP pa ((fOP pa) + (if (fOP ge) < (-(fOP pa)) then (fOP ge) else (-(fOP pa))))), ar cI aPY 10 fPY, ar cI aGT 10 fGT, ar cI aCO 10 fCO] H := hP
    have hD : va_D A [ob aB 0 [.ref aOP, .ref aPY, .ref aGT, .ref aCO, .int (nI bm)], ar cI aOP 10 (upd fOP pa ((fOP pa) + (if (fOP ge) < (-(fOP pa)) then (fOP ge) else (-(fOP pa))))), ar cI aPY 10 fPY, ar cI aGT 10 fGT, ar cI aCO 10 fCO] := hD
    refine lv_aload_n hx hb dX0_addMove_37 rfl (lv_at hl 1 rfl) ?_
    refine va_get (D := D) (ci := 0) (v := .ref aOP) (C := RX0) (T := TX0) (N := 5) hx hb hts inX0 hown hK hP 0 rfl rfl 0 (by decide) fl9 (fun _ h9 => h9) rfl dX0_addMove_38 ?_
    refine lv_iload_n hx hb dX0_addMove_41 rfl (lv_at hl 3 rfl) ?_
    refine lv_dup2_11 hx hb dX0_addMove_42 rfl rfl ?_
    refine m_iald (k := ge) hx hb hK hP 1 0 rfl rfl (by omega) (by decide) dX0_addMove_43 ?_
    refine lv_iload_n hx hb dX0_addMove_44 rfl (lv_at hl 0 rfl) ?_
    refine lv_isub hx hb dX0_addMove_45 ?_
    refine m_iast (k := ge) (x := (((upd fOP pa ((fOP pa) + (if (fOP ge) < (-(fOP pa)) then (fOP ge) else (-(fOP pa))))) ge) - (if (fOP ge) < (-(fOP pa)) then (fOP ge) else (-(fOP pa))))) hx hb hK hP hD hS 1 0 rfl rfl (by omega) (by decide) dX0_addMove_46 (fun H locs hP hD hS => ?_)
    have hP : va_P D vwCl [ob aB 0 [.ref aOP, .ref aPY, .ref aGT, .ref aCO, .int (nI bm)], ar cI aOP 10 (upd (upd fOP pa ((fOP pa) + (if (fOP ge) < (-(fOP pa)) then (fOP ge) else (-(fOP pa))))) ge (((upd fOP pa ((fOP pa) + (if (fOP ge) < (-(fOP pa)) then (fOP ge) else (-(fOP pa))))) ge) - (if (fOP ge) < (-(fOP pa)) then (fOP ge) else (-(fOP pa))))), ar cI aPY 10 fPY, ar cI aGT 10 fGT, ar cI aCO 10 fCO] H := hP
    have hD : va_D A [ob aB 0 [.ref aOP, .ref aPY, .ref aGT, .ref aCO, .int (nI bm)], ar cI aOP 10 (upd (upd fOP pa ((fOP pa) + (if (fOP ge) < (-(fOP pa)) then (fOP ge) else (-(fOP pa))))) ge (((upd fOP pa ((fOP pa) + (if (fOP ge) < (-(fOP pa)) then (fOP ge) else (-(fOP pa))))) ge) - (if (fOP ge) < (-(fOP pa)) then (fOP ge) else (-(fOP pa))))), ar cI aPY 10 fPY, ar cI aGT 10 fGT, ar cI aCO 10 fCO] := hD
    refine lv_aload_n hx hb dX0_addMove_47 rfl (lv_at hl 1 rfl) ?_
    refine va_get (D := D) (ci := 0) (v := .ref aPY) (C := RX0) (T := TX0) (N := 5) hx hb hts inX0 hown hK hP 0 rfl rfl 1 (by decide) fl15 (fun _ h9 => h9) rfl dX0_addMove_48 ?_
    refine lv_aload_n hx hb dX0_addMove_51 rfl (lv_at hl 1 rfl) ?_
    refine va_get (D := D) (ci := 0) (v := .int (nI bm)) (C := RX0) (T := TX0) (N := 5) hx hb hts inX0 hown hK hP 0 rfl rfl 4 (by decide) fl24 (fun _ h9 => h9) rfl dX0_addMove_52 ?_
    refine lv_iload_n hx hb dX0_addMove_55 rfl (lv_at hl 2 rfl) ?_
    refine m_iast (k := bm) (x := (nI pa)) hx hb hK hP hD hS 2 0 rfl rfl (by omega) (by decide) dX0_addMove_56 (fun H locs hP hD hS => ?_)
    have hP : va_P D vwCl [ob aB 0 [.ref aOP, .ref aPY, .ref aGT, .ref aCO, .int (nI bm)], ar cI aOP 10 (upd (upd fOP pa ((fOP pa) + (if (fOP ge) < (-(fOP pa)) then (fOP ge) else (-(fOP pa))))) ge (((upd fOP pa ((fOP pa) + (if (fOP ge) < (-(fOP pa)) then (fOP ge) else (-(fOP pa))))) ge) - (if (fOP ge) < (-(fOP pa)) then (fOP ge) else (-(fOP pa))))), ar cI aPY 10 (upd fPY bm (nI pa)), ar cI aGT 10 fGT, ar cI aCO 10 fCO] H := hP
    have hD : va_D A [ob aB 0 [.ref aOP, .ref aPY, .ref aGT, .ref aCO, .int (nI bm)], ar cI aOP 10 (upd (upd fOP pa ((fOP pa) + (if (fOP ge) < (-(fOP pa)) then (fOP ge) else (-(fOP pa))))) ge (((upd fOP pa ((fOP pa) + (if (fOP ge) < (-(fOP pa)) then (fOP ge) else (-(fOP pa))))) ge) - (if (fOP ge) < (-(fOP pa)) then (fOP ge) else (-(fOP pa))))), ar cI aPY 10 (upd fPY bm (nI pa)), ar cI aGT 10 fGT, ar cI aCO 10 fCO] := hD
    refine lv_aload_n hx hb dX0_addMove_57 rfl (lv_at hl 1 rfl) ?_
    refine va_get (D := D) (ci := 0) (v := .ref aGT) (C := RX0) (T := TX0) (N := 5) hx hb hts inX0 hown hK hP 0 rfl rfl 2 (by decide) fl18 (fun _ h9 => h9) rfl dX0_addMove_58 ?_
    refine lv_aload_n hx hb dX0_addMove_61 rfl (lv_at hl 1 rfl) ?_
    refine va_get (D := D) (ci := 0) (v := .int (nI bm)) (C := RX0) (T := TX0) (N := 5) hx hb hts inX0 hown hK hP 0 rfl rfl 4 (by decide) fl24 (fun _ h9 => h9) rfl dX0_addMove_62 ?_
    refine lv_iload_n hx hb dX0_addMove_65 rfl (lv_at hl 3 rfl) ?_
    refine m_iast (k := bm) (x := (nI ge)) hx hb hK hP hD hS 3 0 rfl rfl (by omega) (by decide) dX0_addMove_66 (fun H locs hP hD hS => ?_)
    have hP : va_P D vwCl [ob aB 0 [.ref aOP, .ref aPY, .ref aGT, .ref aCO, .int (nI bm)], ar cI aOP 10 (upd (upd fOP pa ((fOP pa) + (if (fOP ge) < (-(fOP pa)) then (fOP ge) else (-(fOP pa))))) ge (((upd fOP pa ((fOP pa) + (if (fOP ge) < (-(fOP pa)) then (fOP ge) else (-(fOP pa))))) ge) - (if (fOP ge) < (-(fOP pa)) then (fOP ge) else (-(fOP pa))))), ar cI aPY 10 (upd fPY bm (nI pa)), ar cI aGT 10 (upd fGT bm (nI ge)), ar cI aCO 10 fCO] H := hP
    have hD : va_D A [ob aB 0 [.ref aOP, .ref aPY, .ref aGT, .ref aCO, .int (nI bm)], ar cI aOP 10 (upd (upd fOP pa ((fOP pa) + (if (fOP ge) < (-(fOP pa)) then (fOP ge) else (-(fOP pa))))) ge (((upd fOP pa ((fOP pa) + (if (fOP ge) < (-(fOP pa)) then (fOP ge) else (-(fOP pa))))) ge) - (if (fOP ge) < (-(fOP pa)) then (fOP ge) else (-(fOP pa))))), ar cI aPY 10 (upd fPY bm (nI pa)), ar cI aGT 10 (upd fGT bm (nI ge)), ar cI aCO 10 fCO] := hD
    refine lv_aload_n hx hb dX0_addMove_67 rfl (lv_at hl 1 rfl) ?_
    refine va_get (D := D) (ci := 0) (v := .ref aCO) (C := RX0) (T := TX0) (N := 5) hx hb hts inX0 hown hK hP 0 rfl rfl 3 (by decide) fl21 (fun _ h9 => h9) rfl dX0_addMove_68 ?_
    refine lv_aload_n hx hb dX0_addMove_71 rfl (lv_at hl 1 rfl) ?_
    refine va_get (D := D) (ci := 0) (v := .int (nI bm)) (C := RX0) (T := TX0) (N := 5) hx hb hts inX0 hown hK hP 0 rfl rfl 4 (by decide) fl24 (fun _ h9 => h9) rfl dX0_addMove_72 ?_
    refine lv_iload_n hx hb dX0_addMove_75 rfl (lv_at hl 0 rfl) ?_
    refine m_iast (k := bm) (x := (if (fOP ge) < (-(fOP pa)) then (fOP ge) else (-(fOP pa)))) hx hb hK hP hD hS 4 0 rfl rfl (by omega) (by decide) dX0_addMove_76 (fun H locs hP hD hS => ?_)
    have hP : va_P D vwCl [ob aB 0 [.ref aOP, .ref aPY, .ref aGT, .ref aCO, .int (nI bm)], ar cI aOP 10 (upd (upd fOP pa ((fOP pa) + (if (fOP ge) < (-(fOP pa)) then (fOP ge) else (-(fOP pa))))) ge (((upd fOP pa ((fOP pa) + (if (fOP ge) < (-(fOP pa)) then (fOP ge) else (-(fOP pa))))) ge) - (if (fOP ge) < (-(fOP pa)) then (fOP ge) else (-(fOP pa))))), ar cI aPY 10 (upd fPY bm (nI pa)), ar cI aGT 10 (upd fGT bm (nI ge)), ar cI aCO 10 (upd fCO bm (if (fOP ge) < (-(fOP pa)) then (fOP ge) else (-(fOP pa))))] H := hP
    have hD : va_D A [ob aB 0 [.ref aOP, .ref aPY, .ref aGT, .ref aCO, .int (nI bm)], ar cI aOP 10 (upd (upd fOP pa ((fOP pa) + (if (fOP ge) < (-(fOP pa)) then (fOP ge) else (-(fOP pa))))) ge (((upd fOP pa ((fOP pa) + (if (fOP ge) < (-(fOP pa)) then (fOP ge) else (-(fOP pa))))) ge) - (if (fOP ge) < (-(fOP pa)) then (fOP ge) else (-(fOP pa))))), ar cI aPY 10 (upd fPY bm (nI pa)), ar cI aGT 10 (upd fGT bm (nI ge)), ar cI aCO 10 (upd fCO bm (if (fOP ge) < (-(fOP pa)) then (fOP ge) else (-(fOP pa))))] := hD
    refine lv_aload_n hx hb dX0_addMove_77 rfl (lv_at hl 1 rfl) ?_
    refine lv_dup hx hb dX0_addMove_78 rfl ?_
    refine va_get (D := D) (ci := 0) (v := .int (nI bm)) (C := RX0) (T := TX0) (N := 5) hx hb hts inX0 hown hK hP 0 rfl rfl 4 (by decide) fl24 (fun _ h9 => h9) rfl dX0_addMove_79 ?_
    refine lv_iconst (v := 1) hx hb dX0_addMove_82 (by decide) ?_
    refine m_iaddN (a := bm) (b := 1) hx hb dX0_addMove_83 ?_
    refine va_put (D := D) (ci := 0) (v := .int (nI (bm + 1))) (ty := .int) (C := RX0) (T := TX0) (N := 5) hx hb hts inX0 tyX0 tyX0_ok nmX0 hown hK hP hD hS 0 rfl rfl 4 (by decide) fl24 (fun _ h9 => h9) rfl (by decide +kernel) (rfl) (rfl) (Nat.le_of_ble_eq_true rfl) dX0_addMove_84 (fun H locs hP hD hS => ?_)
    have hP : va_P D vwCl [ob aB 0 [.ref aOP, .ref aPY, .ref aGT, .ref aCO, .int (nI (bm + 1))], ar cI aOP 10 (upd (upd fOP pa ((fOP pa) + (if (fOP ge) < (-(fOP pa)) then (fOP ge) else (-(fOP pa))))) ge (((upd fOP pa ((fOP pa) + (if (fOP ge) < (-(fOP pa)) then (fOP ge) else (-(fOP pa))))) ge) - (if (fOP ge) < (-(fOP pa)) then (fOP ge) else (-(fOP pa))))), ar cI aPY 10 (upd fPY bm (nI pa)), ar cI aGT 10 (upd fGT bm (nI ge)), ar cI aCO 10 (upd fCO bm (if (fOP ge) < (-(fOP pa)) then (fOP ge) else (-(fOP pa))))] H := hP
    have hD : va_D A [ob aB 0 [.ref aOP, .ref aPY, .ref aGT, .ref aCO, .int (nI (bm + 1))], ar cI aOP 10 (upd (upd fOP pa ((fOP pa) + (if (fOP ge) < (-(fOP pa)) then (fOP ge) else (-(fOP pa))))) ge (((upd fOP pa ((fOP pa) + (if (fOP ge) < (-(fOP pa)) then (fOP ge) else (-(fOP pa))))) ge) - (if (fOP ge) < (-(fOP pa)) then (fOP ge) else (-(fOP pa))))), ar cI aPY 10 (upd fPY bm (nI pa)), ar cI aGT 10 (upd fGT bm (nI ge)), ar cI aCO 10 (upd fCO bm (if (fOP ge) < (-(fOP pa)) then (fOP ge) else (-(fOP pa))))] := hD
    exact ret ((upd (upd fOP pa ((fOP pa) + (if (fOP ge) < (-(fOP pa)) then (fOP ge) else (-(fOP pa))))) ge (((upd fOP pa ((fOP pa) + (if (fOP ge) < (-(fOP pa)) then (fOP ge) else (-(fOP pa))))) ge) - (if (fOP ge) < (-(fOP pa)) then (fOP ge) else (-(fOP pa))))), (upd fPY bm (nI pa)), (upd fGT bm (nI ge)), (upd fCO bm (if (fOP ge) < (-(fOP pa)) then (fOP ge) else (-(fOP pa))))) _ _ _ _ dX0_addMove_87 (⟨rfl, rfl, rfl, rfl⟩) (hP) (hD) hS
  · skip
    have k_6 : ¬ bm < 10 := fun h9 => c_6 ((nI_ltI (a := bm) (b := 10) (by omega) (by omega)).mpr h9)
    exact absurd (by omega) k_6
abbrev r_c_X0_coinsMoved : Room := { frames := 0, cells := 0, slots := 0, locals := 0 }
set_option maxHeartbeats 4000000 in
set_option maxRecDepth 100000 in
theorem c_X0_coinsMoved (l : Launch) (D : va_G) (cI cZ : ClassId) (aB : Nat) (aOP : Nat) (aPY : Nat) (aGT : Nat) (aCO : Nat) (fCO : Nat → Int32) (bm : Nat) (hbm : bm ≤ 10) : MI l yX0_coinsMoved wsX0_coinsMoved r_c_X0_coinsMoved D cI cZ [.ref aB] [ob aB 0 [.ref aOP, .ref aPY, .ref aGT, .ref aCO, .int (nI bm)], ar cI aCO 10 fCO] (fun (r : Int32) (u : Unit) => r = sumS fCO bm) (fun (u : Unit) => [ob aB 0 [.ref aOP, .ref aPY, .ref aGT, .ref aCO, .int (nI bm)], ar cI aCO 10 fCO]) 0 0 := by
  refine MI.of (cc := cX0_coinsMoved) (maxL := 3) (by decide) rfl (Nat.le_of_ble_eq_true rfl) ?_
  intro p e s m below meth c A Q hx hb hml hown hts hN hK hA ret hP hD hS ls hl
  have hown : s.vm.findClass RX0 = some m.cls := hown
  have inX0 : ∀ w ∈ wsX00, w ∈ wsX0_coinsMoved := by decide +kernel
  have fl21 := hts (.fieldLink RX0 21 "AdvanceBook$Balance" "coins" "[I") (by decide +kernel)
  have fl24 := hts (.fieldLink RX0 24 "AdvanceBook$Balance" "moves" "I") (by decide +kernel)
  have hP : va_P D vwCl [ob aB 0 [.ref aOP, .ref aPY, .ref aGT, .ref aCO, .int (nI bm)], ar cI aCO 10 fCO] s.heap := hP
  have hD : va_D A [ob aB 0 [.ref aOP, .ref aPY, .ref aGT, .ref aCO, .int (nI bm)], ar cI aCO 10 fCO] := hD
  have hl : lv_has ls 3 [(0, .ref aB)] := hl
  refine lv_iconst (v := 0) hx hb dX0_coinsMoved_0 (by decide) ?_
  refine lv_istore_n (lv' := [(1, .int 0), (0, .ref aB)]) hx hb dX0_coinsMoved_1 rfl hl (by decide) rfl (fun ls hl => ?_)
  refine lv_iconst (v := 0) hx hb dX0_coinsMoved_2 (by decide) ?_
  refine lv_istore_n (lv' := [(2, .int 0), (1, .int 0), (0, .ref aB)]) hx hb dX0_coinsMoved_3 rfl hl (by decide) rfl (fun ls hl => ?_)
  have L_4 : ∀ (n_4 : Nat) (k : Nat) (sm : Int32), (bm - k < n_4) → (k ≤ bm) → (sm = sumS fCO k) → ∀ (H : Heap) (locs : List Loc), va_P D vwCl [ob aB 0 [.ref aOP, .ref aPY, .ref aGT, .ref aCO, .int (nI bm)], ar cI aCO 10 fCO] H → va_D A [ob aB 0 [.ref aOP, .ref aPY, .ref aGT, .ref aCO, .int (nI bm)], ar cI aCO 10 fCO] → va_S A s.heap H locs → ∀ ls : Array Slot, lv_has ls 3 [(0, .ref aB), (1, .int sm), (2, .int (nI k))] → W p l e r_c_X0_coinsMoved s m (([.ref aB] : List Value).toArray) below meth c H locs 0 0 Q (F0 m 4 ls []) := by
    intro n_4
    induction n_4 with
    | zero => intro k sm hfu; exact absurd hfu (Nat.not_lt_zero _)
    | succ n_4 ih_4 =>
      intro k sm hfu_4 hk hs H locs hP hD hS ls hl
      refine lv_iload_n hx hb dX0_coinsMoved_4 rfl (lv_at hl 2 rfl) ?_
      refine lv_aload_n hx hb dX0_coinsMoved_5 rfl (lv_at hl 0 rfl) ?_
      refine va_get (D := D) (ci := 0) (v := .int (nI bm)) (C := RX0) (T := TX0) (N := 5) hx hb hts inX0 hown hK hP 0 rfl rfl 4 (by decide) fl24 (fun _ h9 => h9) rfl dX0_coinsMoved_6 ?_
      refine lv_icmp_ge (tgt := 27) hx hb dX0_coinsMoved_9 (by decide) (fun c_9 => ?_) (fun c_9 => ?_)
      · skip
        have k_9 : bm ≤ k := (nI_leI (a := bm) (b := k) (by omega) (by omega)).mp c_9
        refine lv_iload_n hx hb dX0_coinsMoved_27 rfl (lv_at hl 1 rfl) ?_
        exact ret sm () _ _ _ _ dX0_coinsMoved_28 (by have e : k = bm := (by omega); subst e; exact hs) (hP) (hD) hS
      · skip
        have k_9 : ¬ bm ≤ k := fun h9 => c_9 ((nI_leI (a := bm) (b := k) (by omega) (by omega)).mpr h9)
        refine lv_iload_n hx hb dX0_coinsMoved_12 rfl (lv_at hl 1 rfl) ?_
        refine lv_aload_n hx hb dX0_coinsMoved_13 rfl (lv_at hl 0 rfl) ?_
        refine va_get (D := D) (ci := 0) (v := .ref aCO) (C := RX0) (T := TX0) (N := 5) hx hb hts inX0 hown hK hP 0 rfl rfl 3 (by decide) fl21 (fun _ h9 => h9) rfl dX0_coinsMoved_14 ?_
        refine lv_iload_n hx hb dX0_coinsMoved_17 rfl (lv_at hl 2 rfl) ?_
        refine m_iald (k := k) hx hb hK hP 1 0 rfl rfl (by omega) (by decide) dX0_coinsMoved_18 ?_
        refine lv_iadd hx hb dX0_coinsMoved_19 ?_
        refine lv_istore_n (lv' := [(1, .int (sm + (fCO k))), (0, .ref aB), (2, .int (nI k))]) hx hb dX0_coinsMoved_20 rfl hl (by decide) rfl (fun ls hl => ?_)
        refine lv_iinc (v := (nI (k + 1))) (lv' := [(2, .int (nI (k + 1))), (1, .int (sm + (fCO k))), (0, .ref aB)]) hx hb dX0_coinsMoved_21 hl (k := 2) rfl (nI_inc k 1 (by decide)) (by decide) rfl (fun ls hl => ?_)
        refine lv_goto (tgt := 4) hx hb dX0_coinsMoved_24 (by decide) ?_
        exact ih_4 (k + 1) (sm + (fCO k)) (by omega) (by omega) (by rw [hs]; rfl) _ _ (hP) (hD) hS ls (lv_sub hl [2, 1, 0] rfl)
  exact L_4 ((bm - 0) + 1) 0 0 (Nat.lt_succ_self _) (by omega) (rfl) _ _ (hP) (hD) hS ls (lv_sub hl [2, 1, 0] rfl)
abbrev r_c_X0_tell : Room := { frames := 0, cells := 0, slots := 0, locals := 0 }
set_option maxHeartbeats 4000000 in
set_option maxRecDepth 100000 in
theorem c_X0_tell (l : Launch) (D : va_G) (cI cZ : ClassId) (aB : Nat) (aOP : Nat) (aPY : Nat) (aGT : Nat) (aCO : Nat) (fPY : Nat → Int32) (fGT : Nat → Int32) (fCO : Nat → Int32) (bm : Nat) (k : Int32) (x : Int32) (hbm : bm ≤ 10) : MI l yX0_tell wsX0_tell r_c_X0_tell D cI cZ [.ref aB, .int k, .int x] [ob aB 0 [.ref aOP, .ref aPY, .ref aGT, .ref aCO, .int (nI bm)], ar cI aPY 10 fPY, ar cI aGT 10 fGT, ar cI aCO 10 fCO] (fun (r : Int32) (u : Unit) => r = tellB fPY fGT fCO bm k x) (fun (u : Unit) => [ob aB 0 [.ref aOP, .ref aPY, .ref aGT, .ref aCO, .int (nI bm)], ar cI aPY 10 fPY, ar cI aGT 10 fGT, ar cI aCO 10 fCO]) 0 0 := by
  refine MI.of (cc := cX0_tell) (maxL := 3) (by decide) rfl (Nat.le_of_ble_eq_true rfl) ?_
  intro p e s m below meth c A Q hx hb hml hown hts hN hK hA ret hP hD hS ls hl
  have hown : s.vm.findClass RX0 = some m.cls := hown
  have inX0 : ∀ w ∈ wsX00, w ∈ wsX0_tell := by decide +kernel
  have fl15 := hts (.fieldLink RX0 15 "AdvanceBook$Balance" "payers" "[I") (by decide +kernel)
  have fl18 := hts (.fieldLink RX0 18 "AdvanceBook$Balance" "getters" "[I") (by decide +kernel)
  have fl21 := hts (.fieldLink RX0 21 "AdvanceBook$Balance" "coins" "[I") (by decide +kernel)
  have fl24 := hts (.fieldLink RX0 24 "AdvanceBook$Balance" "moves" "I") (by decide +kernel)
  have hP : va_P D vwCl [ob aB 0 [.ref aOP, .ref aPY, .ref aGT, .ref aCO, .int (nI bm)], ar cI aPY 10 fPY, ar cI aGT 10 fGT, ar cI aCO 10 fCO] s.heap := hP
  have hD : va_D A [ob aB 0 [.ref aOP, .ref aPY, .ref aGT, .ref aCO, .int (nI bm)], ar cI aPY 10 fPY, ar cI aGT 10 fGT, ar cI aCO 10 fCO] := hD
  have hl : lv_has ls 3 [(0, .ref aB), (1, .int k), (2, .int x)] := hl
  refine lv_iload_n hx hb dX0_tell_0 rfl (lv_at hl 1 rfl) ?_
  refine lv_if_lt (tgt := 12) hx hb dX0_tell_1 (by decide) (fun c_1 => ?_) (fun c_1 => ?_)
  · skip
    refine lv_iconst (v := (-1)) hx hb dX0_tell_12 (by decide) ?_
    exact ret (-1) () _ _ _ _ dX0_tell_13 (by unfold tellB; rw [if_neg (by grind)]) (hP) (hD) hS
  · skip
    refine lv_iload_n hx hb dX0_tell_4 rfl (lv_at hl 1 rfl) ?_
    refine lv_aload_n hx hb dX0_tell_5 rfl (lv_at hl 0 rfl) ?_
    refine va_get (D := D) (ci := 0) (v := .int (nI bm)) (C := RX0) (T := TX0) (N := 5) hx hb hts inX0 hown hK hP 0 rfl rfl 4 (by decide) fl24 (fun _ h9 => h9) rfl dX0_tell_6 ?_
    refine lv_icmp_lt (tgt := 14) hx hb dX0_tell_9 (by decide) (fun c_9 => ?_) (fun c_9 => ?_)
    · skip
      refine lv_iload_n hx hb dX0_tell_14 rfl (lv_at hl 2 rfl) ?_
      by_cases e15_0 : x = 0
      · refine lv_tableIn (tgt := 40) hx hb dX0_tell_15 (by rw [e15_0]; decide) (by rw [e15_0]; decide) (by rw [e15_0]; rfl) (by decide) ?_
        refine lv_aload_n hx hb dX0_tell_40 rfl (lv_at hl 0 rfl) ?_
        refine va_get (D := D) (ci := 0) (v := .ref aPY) (C := RX0) (T := TX0) (N := 5) hx hb hts inX0 hown hK hP 0 rfl rfl 1 (by decide) fl15 (fun _ h9 => h9) rfl dX0_tell_41 ?_
        refine lv_iload_n hx hb dX0_tell_44 rfl (lv_at hl 1 rfl) ?_
        refine va_iald hx hb hK hP 1 0 rfl rfl (vp_in_range c_1 c_9 hbm (by decide)) dX0_tell_45 ?_
        exact ret (fPY (ix k)) () _ _ _ _ dX0_tell_46 (by unfold tellB; rw [if_pos ⟨by grind, c_9⟩]; simp [*]) (hP) (hD) hS
      by_cases e15_1 : x = 1
      · refine lv_tableIn (tgt := 47) hx hb dX0_tell_15 (by rw [e15_1]; decide) (by rw [e15_1]; decide) (by rw [e15_1]; rfl) (by decide) ?_
        refine lv_aload_n hx hb dX0_tell_47 rfl (lv_at hl 0 rfl) ?_
        refine va_get (D := D) (ci := 0) (v := .ref aGT) (C := RX0) (T := TX0) (N := 5) hx hb hts inX0 hown hK hP 0 rfl rfl 2 (by decide) fl18 (fun _ h9 => h9) rfl dX0_tell_48 ?_
        refine lv_iload_n hx hb dX0_tell_51 rfl (lv_at hl 1 rfl) ?_
        refine va_iald hx hb hK hP 2 0 rfl rfl (vp_in_range c_1 c_9 hbm (by decide)) dX0_tell_52 ?_
        exact ret (fGT (ix k)) () _ _ _ _ dX0_tell_53 (by unfold tellB; rw [if_pos ⟨by grind, c_9⟩]; simp [*]) (hP) (hD) hS
      by_cases e15_2 : x = 2
      · refine lv_tableIn (tgt := 54) hx hb dX0_tell_15 (by rw [e15_2]; decide) (by rw [e15_2]; decide) (by rw [e15_2]; rfl) (by decide) ?_
        refine lv_aload_n hx hb dX0_tell_54 rfl (lv_at hl 0 rfl) ?_
        refine va_get (D := D) (ci := 0) (v := .ref aCO) (C := RX0) (T := TX0) (N := 5) hx hb hts inX0 hown hK hP 0 rfl rfl 3 (by decide) fl21 (fun _ h9 => h9) rfl dX0_tell_55 ?_
        refine lv_iload_n hx hb dX0_tell_58 rfl (lv_at hl 1 rfl) ?_
        refine va_iald hx hb hK hP 3 0 rfl rfl (vp_in_range c_1 c_9 hbm (by decide)) dX0_tell_59 ?_
        exact ret (fCO (ix k)) () _ _ _ _ dX0_tell_60 (by unfold tellB; rw [if_pos ⟨by grind, c_9⟩]; simp [*]) (hP) (hD) hS
      refine lv_tableOut (tgt := 61) hx hb dX0_tell_15 (by have t0 := sw_ne (z := 0) (by decide) e15_0; have t1 := sw_ne (z := 1) (by decide) e15_1; have t2 := sw_ne (z := 2) (by decide) e15_2; omega) (by decide) ?_
      refine lv_iconst (v := (-1)) hx hb dX0_tell_61 (by decide) ?_
      exact ret (-1) () _ _ _ _ dX0_tell_62 (by unfold tellB; rw [if_pos ⟨by grind, c_9⟩]; simp [*]) (hP) (hD) hS
    · skip
      refine lv_iconst (v := (-1)) hx hb dX0_tell_12 (by decide) ?_
      exact ret (-1) () _ _ _ _ dX0_tell_13 (by unfold tellB; rw [if_neg (by grind)]) (hP) (hD) hS
abbrev r_c_X0_workOut : Room := { frames := 2, cells := 0, slots := 0, locals := 36 }
set_option maxHeartbeats 4000000 in
set_option maxRecDepth 100000 in
theorem c_X0_workOut (l : Launch) (D : va_G) (cI cZ : ClassId) (aB : Nat) (aOP : Nat) (aPY : Nat) (aGT : Nat) (aCO : Nat) (aT : Nat) (aPU : Nat) (aP : Nat) (aTD : Nat) (aTC : Nat) (aTK : Nat) (aTR : Nat) (aDY : Nat) (aCP : Nat) (aDB : Nat) (aCR : Nat) (aRK : Nat) (aLF : Nat) (fOP : Nat → Int32) (fPY : Nat → Int32) (fGT : Nat → Int32) (fCO : Nat → Int32) (fCR : Nat → Int32) (fLF : Nat → Int32) (fDB : Nat → Int32) (b0 : Int32) (nm : Nat) (td : Int32) (np : Nat) (hnm : nm ≤ 10) (hnp : np ≤ 40) : MV l yX0_workOut wsX0_workOut r_c_X0_workOut D cI cZ [.ref aB, .ref aT] [ob aB 0 [.ref aOP, .ref aPY, .ref aGT, .ref aCO, .int b0], ar cI aOP 10 fOP, ar cI aPY 10 fPY, ar cI aGT 10 fGT, ar cI aCO 10 fCO, ob aT 6 [.ref aPU, .ref aP, .int (nI nm), .int td], ob aP 3 [.ref aTD, .ref aTC, .ref aTK, .ref aTR, .ref aDY, .ref aCP, .ref aDB, .ref aCR, .ref aRK, .ref aLF, .int (nI np)], ar cI aCR 40 fCR, ar cI aLF 40 fLF, ar cI aDB 40 fDB] (fun (u : (Nat → Int32) × (Nat → Int32) × (Nat → Int32) × (Nat → Int32) × Nat) => holdsL u.2.1 u.2.2.1 u.2.2.2.1 (movesL fCR fDB fLF np nm) ∧ u.2.2.2.2 = ((movesL fCR fDB fLF np nm)).length ∧ u.2.2.2.2 ≤ 10) (fun (u : (Nat → Int32) × (Nat → Int32) × (Nat → Int32) × (Nat → Int32) × Nat) => [ob aB 0 [.ref aOP, .ref aPY, .ref aGT, .ref aCO, .int (nI u.2.2.2.2)], ar cI aOP 10 u.1, ar cI aPY 10 u.2.1, ar cI aGT 10 u.2.2.1, ar cI aCO 10 u.2.2.2.1, ob aT 6 [.ref aPU, .ref aP, .int (nI nm), .int td], ob aP 3 [.ref aTD, .ref aTC, .ref aTK, .ref aTR, .ref aDY, .ref aCP, .ref aDB, .ref aCR, .ref aRK, .ref aLF, .int (nI np)], ar cI aCR 40 fCR, ar cI aLF 40 fLF, ar cI aDB 40 fDB]) 0 0 := by
  refine MV.of (cc := cX0_workOut) (maxL := 4) (by decide) rfl (Nat.le_of_ble_eq_true rfl) ?_
  intro p e s m below meth c A Q hx hb hml hown hts hN hK hA ret hP hD hS ls hl hmn
  have hown : s.vm.findClass RX0 = some m.cls := hown
  have inX0 : ∀ w ∈ wsX00, w ∈ wsX0_workOut := by decide +kernel
  have inX6 : ∀ w ∈ wsX60, w ∈ wsX0_workOut := by decide +kernel
  have fl9 := hts (.fieldLink RX0 9 "AdvanceBook$Balance" "open" "[I") (by decide +kernel)
  have fl24 := hts (.fieldLink RX0 24 "AdvanceBook$Balance" "moves" "I") (by decide +kernel)
  have fl28 : (Cond.fieldLinkNest RX0 28 "AdvanceBook$Town" "men" "I" "AdvanceBook").before (([.ref aB, .ref aT] : List Value).toArray) s = true := nest_useF hN (by decide +kernel)
  have fl33 : (Cond.fieldLinkNest RX0 33 "AdvanceBook$Town" "papers" "LAdvanceBook$Papers;" "AdvanceBook").before (([.ref aB, .ref aT] : List Value).toArray) s = true := nest_useF hN (by decide +kernel)
  have hP : va_P D vwCl [ob aB 0 [.ref aOP, .ref aPY, .ref aGT, .ref aCO, .int b0], ar cI aOP 10 fOP, ar cI aPY 10 fPY, ar cI aGT 10 fGT, ar cI aCO 10 fCO, ob aT 6 [.ref aPU, .ref aP, .int (nI nm), .int td], ob aP 3 [.ref aTD, .ref aTC, .ref aTK, .ref aTR, .ref aDY, .ref aCP, .ref aDB, .ref aCR, .ref aRK, .ref aLF, .int (nI np)], ar cI aCR 40 fCR, ar cI aLF 40 fLF, ar cI aDB 40 fDB] s.heap := hP
  have hD : va_D A [ob aB 0 [.ref aOP, .ref aPY, .ref aGT, .ref aCO, .int b0], ar cI aOP 10 fOP, ar cI aPY 10 fPY, ar cI aGT 10 fGT, ar cI aCO 10 fCO, ob aT 6 [.ref aPU, .ref aP, .int (nI nm), .int td], ob aP 3 [.ref aTD, .ref aTC, .ref aTK, .ref aTR, .ref aDY, .ref aCP, .ref aDB, .ref aCR, .ref aRK, .ref aLF, .int (nI np)], ar cI aCR 40 fCR, ar cI aLF 40 fLF, ar cI aDB 40 fDB] := hD
  have hl : lv_has ls 4 [(0, .ref aB), (1, .ref aT)] := hl
  refine lv_aload_n hx hb dX0_workOut_0 rfl (lv_at hl 0 rfl) ?_
  refine lv_iconst (v := 0) hx hb dX0_workOut_1 (by decide) ?_
  refine va_put (D := D) (ci := 0) (v := .int 0) (ty := .int) (C := RX0) (T := TX0) (N := 5) hx hb hts inX0 tyX0 tyX0_ok nmX0 hown hK hP hD hS 0 rfl rfl 4 (by decide) fl24 (fun _ h9 => h9) rfl (by decide +kernel) (rfl) (rfl) (Nat.le_of_ble_eq_true rfl) dX0_workOut_2 (fun H locs hP hD hS => ?_)
  have hP : va_P D vwCl [ob aB 0 [.ref aOP, .ref aPY, .ref aGT, .ref aCO, .int 0], ar cI aOP 10 fOP, ar cI aPY 10 fPY, ar cI aGT 10 fGT, ar cI aCO 10 fCO, ob aT 6 [.ref aPU, .ref aP, .int (nI nm), .int td], ob aP 3 [.ref aTD, .ref aTC, .ref aTK, .ref aTR, .ref aDY, .ref aCP, .ref aDB, .ref aCR, .ref aRK, .ref aLF, .int (nI np)], ar cI aCR 40 fCR, ar cI aLF 40 fLF, ar cI aDB 40 fDB] H := hP
  have hD : va_D A [ob aB 0 [.ref aOP, .ref aPY, .ref aGT, .ref aCO, .int 0], ar cI aOP 10 fOP, ar cI aPY 10 fPY, ar cI aGT 10 fGT, ar cI aCO 10 fCO, ob aT 6 [.ref aPU, .ref aP, .int (nI nm), .int td], ob aP 3 [.ref aTD, .ref aTC, .ref aTK, .ref aTR, .ref aDY, .ref aCP, .ref aDB, .ref aCR, .ref aRK, .ref aLF, .int (nI np)], ar cI aCR 40 fCR, ar cI aLF 40 fLF, ar cI aDB 40 fDB] := hD
  refine lv_iconst (v := 0) hx hb dX0_workOut_5 (by decide) ?_
  refine lv_istore_n (lv' := [(2, .int 0), (0, .ref aB), (1, .ref aT)]) hx hb dX0_workOut_6 rfl hl (by decide) rfl (fun ls hl => ?_)
  have L_7 : ∀ (n_7 : Nat) (k : Nat) (h : Nat → Int32), (nm - k < n_7) → (k ≤ nm) → (h = fil (netsF fCR fDB fLF np) fOP k) → ∀ (H : Heap) (locs : List Loc), va_P D vwCl [ob aB 0 [.ref aOP, .ref aPY, .ref aGT, .ref aCO, .int 0], ar cI aOP 10 h, ar cI aPY 10 fPY, ar cI aGT 10 fGT, ar cI aCO 10 fCO, ob aT 6 [.ref aPU, .ref aP, .int (nI nm), .int td], ob aP 3 [.ref aTD, .ref aTC, .ref aTK, .ref aTR, .ref aDY, .ref aCP, .ref aDB, .ref aCR, .ref aRK, .ref aLF, .int (nI np)], ar cI aCR 40 fCR, ar cI aLF 40 fLF, ar cI aDB 40 fDB] H → va_D A [ob aB 0 [.ref aOP, .ref aPY, .ref aGT, .ref aCO, .int 0], ar cI aOP 10 h, ar cI aPY 10 fPY, ar cI aGT 10 fGT, ar cI aCO 10 fCO, ob aT 6 [.ref aPU, .ref aP, .int (nI nm), .int td], ob aP 3 [.ref aTD, .ref aTC, .ref aTK, .ref aTR, .ref aDY, .ref aCP, .ref aDB, .ref aCR, .ref aRK, .ref aLF, .int (nI np)], ar cI aCR 40 fCR, ar cI aLF 40 fLF, ar cI aDB 40 fDB] → va_S A s.heap H locs → ∀ ls : Array Slot, lv_has ls 4 [(0, .ref aB), (1, .ref aT), (2, .int (nI k))] → W p l e r_c_X0_workOut s m (([.ref aB, .ref aT] : List Value).toArray) below meth c H locs 0 0 Q (F0 m 7 ls []) := by
    intro n_7
    induction n_7 with
    | zero => intro k h hfu; exact absurd hfu (Nat.not_lt_zero _)
    | succ n_7 ih_7 =>
      intro k h hfu_7 hk hf H locs hP hD hS ls hl
      refine lv_iload_n hx hb dX0_workOut_7 rfl (lv_at hl 2 rfl) ?_
      refine lv_aload_n hx hb dX0_workOut_8 rfl (lv_at hl 1 rfl) ?_
      refine va_getN (D := D) (ci := 6) (v := .int (nI nm)) (C := RX6) (T := TX6) (N := 4) hx hb hts inX6 hown hK hP 5 rfl rfl 2 (by decide) fl28 (fun _ h9 => h9) rfl dX0_workOut_9 ?_
      refine lv_icmp_ge (tgt := 35) hx hb dX0_workOut_12 (by decide) (fun c_12 => ?_) (fun c_12 => ?_)
      · skip
        have k_12 : nm ≤ k := (nI_leI (a := nm) (b := k) (by omega) (by omega)).mp c_12
        refine lv_iconst (v := 0) hx hb dX0_workOut_35 (by decide) ?_
        refine lv_istore_n (lv' := [(2, .int 0), (0, .ref aB), (1, .ref aT)]) hx hb dX0_workOut_36 rfl hl (by decide) rfl (fun ls hl => ?_)
        have L_37 : ∀ (n_37 : Nat) (pa : Nat) (z1 : Nat → Int32) (PY1 : Nat → Int32) (GT1 : Nat → Int32) (CO1 : Nat → Int32) (L1 : List (Nat × Nat × Int32)) (bm1 : Nat), (nm - pa < n_37) → (pa ≤ nm) → ((allR nm (nm - pa) pa (z1, L1)).2 = (movesL fCR fDB fLF np nm)) → (holdsL PY1 GT1 CO1 L1) → (bm1 = L1.length) → (bm1 + nz z1 nm ≤ 10) → ∀ (H : Heap) (locs : List Loc), va_P D vwCl [ob aB 0 [.ref aOP, .ref aPY, .ref aGT, .ref aCO, .int (nI bm1)], ar cI aOP 10 z1, ar cI aPY 10 PY1, ar cI aGT 10 GT1, ar cI aCO 10 CO1, ob aT 6 [.ref aPU, .ref aP, .int (nI nm), .int td], ob aP 3 [.ref aTD, .ref aTC, .ref aTK, .ref aTR, .ref aDY, .ref aCP, .ref aDB, .ref aCR, .ref aRK, .ref aLF, .int (nI np)], ar cI aCR 40 fCR, ar cI aLF 40 fLF, ar cI aDB 40 fDB] H → va_D A [ob aB 0 [.ref aOP, .ref aPY, .ref aGT, .ref aCO, .int (nI bm1)], ar cI aOP 10 z1, ar cI aPY 10 PY1, ar cI aGT 10 GT1, ar cI aCO 10 CO1, ob aT 6 [.ref aPU, .ref aP, .int (nI nm), .int td], ob aP 3 [.ref aTD, .ref aTC, .ref aTK, .ref aTR, .ref aDY, .ref aCP, .ref aDB, .ref aCR, .ref aRK, .ref aLF, .int (nI np)], ar cI aCR 40 fCR, ar cI aLF 40 fLF, ar cI aDB 40 fDB] → va_S A s.heap H locs → ∀ ls : Array Slot, lv_has ls 4 [(0, .ref aB), (1, .ref aT), (2, .int (nI pa))] → W p l e r_c_X0_workOut s m (([.ref aB, .ref aT] : List Value).toArray) below meth c H locs 0 0 Q (F0 m 37 ls []) := by
          intro n_37
          induction n_37 with
          | zero => intro pa z1 PY1 GT1 CO1 L1 bm1 hfu; exact absurd hfu (Nat.not_lt_zero _)
          | succ n_37 ih_37 =>
            intro pa z1 PY1 GT1 CO1 L1 bm1 hfu_37 hp h2 hh1 hb1 hz1 H locs hP hD hS ls hl
            refine lv_iload_n hx hb dX0_workOut_37 rfl (lv_at hl 2 rfl) ?_
            refine lv_aload_n hx hb dX0_workOut_38 rfl (lv_at hl 1 rfl) ?_
            refine va_getN (D := D) (ci := 6) (v := .int (nI nm)) (C := RX6) (T := TX6) (N := 4) hx hb hts inX6 hown hK hP 5 rfl rfl 2 (by decide) fl28 (fun _ h9 => h9) rfl dX0_workOut_39 ?_
            refine lv_icmp_ge (tgt := 91) hx hb dX0_workOut_42 (by decide) (fun c_42 => ?_) (fun c_42 => ?_)
            · skip
              have k_42 : nm ≤ pa := (nI_leI (a := nm) (b := pa) (by omega) (by omega)).mp c_42
              exact ret (z1, PY1, GT1, CO1, bm1) _ _ _ _ dX0_workOut_91 (by have e : pa = nm := (by omega); subst e; have e1 : L1 = (movesL fCR fDB fLF np pa) := (by rw [← h2, Nat.sub_self]; rfl); rw [← e1]; exact ⟨hh1, hb1, (by show bm1 ≤ 10; omega)⟩) (hP) (hD) hS
            · skip
              have k_42 : ¬ nm ≤ pa := fun h9 => c_42 ((nI_leI (a := nm) (b := pa) (by omega) (by omega)).mpr h9)
              refine lv_iconst (v := 0) hx hb dX0_workOut_45 (by decide) ?_
              refine lv_istore_n (lv' := [(3, .int 0), (0, .ref aB), (1, .ref aT), (2, .int (nI pa))]) hx hb dX0_workOut_46 rfl hl (by decide) rfl (fun ls hl => ?_)
              have L_47 : ∀ (n_47 : Nat) (ge : Nat) (z2 : Nat → Int32) (PY2 : Nat → Int32) (GT2 : Nat → Int32) (CO2 : Nat → Int32) (L2 : List (Nat × Nat × Int32)) (bm2 : Nat), (nm - ge < n_47) → (ge ≤ nm) → ((allR nm (nm - pa - 1) (pa + 1) (rowR pa (nm - ge) ge (z2, L2))).2 = (movesL fCR fDB fLF np nm)) → (holdsL PY2 GT2 CO2 L2) → (bm2 = L2.length) → (bm2 + nz z2 nm ≤ 10) → ∀ (H : Heap) (locs : List Loc), va_P D vwCl [ob aB 0 [.ref aOP, .ref aPY, .ref aGT, .ref aCO, .int (nI bm2)], ar cI aOP 10 z2, ar cI aPY 10 PY2, ar cI aGT 10 GT2, ar cI aCO 10 CO2, ob aT 6 [.ref aPU, .ref aP, .int (nI nm), .int td], ob aP 3 [.ref aTD, .ref aTC, .ref aTK, .ref aTR, .ref aDY, .ref aCP, .ref aDB, .ref aCR, .ref aRK, .ref aLF, .int (nI np)], ar cI aCR 40 fCR, ar cI aLF 40 fLF, ar cI aDB 40 fDB] H → va_D A [ob aB 0 [.ref aOP, .ref aPY, .ref aGT, .ref aCO, .int (nI bm2)], ar cI aOP 10 z2, ar cI aPY 10 PY2, ar cI aGT 10 GT2, ar cI aCO 10 CO2, ob aT 6 [.ref aPU, .ref aP, .int (nI nm), .int td], ob aP 3 [.ref aTD, .ref aTC, .ref aTK, .ref aTR, .ref aDY, .ref aCP, .ref aDB, .ref aCR, .ref aRK, .ref aLF, .int (nI np)], ar cI aCR 40 fCR, ar cI aLF 40 fLF, ar cI aDB 40 fDB] → va_S A s.heap H locs → ∀ ls : Array Slot, lv_has ls 4 [(0, .ref aB), (1, .ref aT), (2, .int (nI pa)), (3, .int (nI ge))] → W p l e r_c_X0_workOut s m (([.ref aB, .ref aT] : List Value).toArray) below meth c H locs 0 0 Q (F0 m 47 ls []) := by
                intro n_47
                induction n_47 with
                | zero => intro ge z2 PY2 GT2 CO2 L2 bm2 hfu; exact absurd hfu (Nat.not_lt_zero _)
                | succ n_47 ih_47 =>
                  intro ge z2 PY2 GT2 CO2 L2 bm2 hfu_47 hg h3 hh2 hb2 hz2 H locs hP hD hS ls hl
                  refine lv_iload_n hx hb dX0_workOut_47 rfl (lv_at hl 3 rfl) ?_
                  refine lv_aload_n hx hb dX0_workOut_48 rfl (lv_at hl 1 rfl) ?_
                  refine va_getN (D := D) (ci := 6) (v := .int (nI nm)) (C := RX6) (T := TX6) (N := 4) hx hb hts inX6 hown hK hP 5 rfl rfl 2 (by decide) fl28 (fun _ h9 => h9) rfl dX0_workOut_49 ?_
                  refine lv_icmp_ge (tgt := 85) hx hb dX0_workOut_52 (by decide) (fun c_52 => ?_) (fun c_52 => ?_)
                  · skip
                    have k_52 : nm ≤ ge := (nI_leI (a := nm) (b := ge) (by omega) (by omega)).mp c_52
                    refine lv_iinc (v := (nI (pa + 1))) (lv' := [(2, .int (nI (pa + 1))), (0, .ref aB), (1, .ref aT), (3, .int (nI ge))]) hx hb dX0_workOut_85 hl (k := 2) rfl (nI_inc pa 1 (by decide)) (by decide) rfl (fun ls hl => ?_)
                    refine lv_goto (tgt := 37) hx hb dX0_workOut_88 (by decide) ?_
                    exact ih_37 (pa + 1) z2 PY2 GT2 CO2 L2 bm2 (by omega) (by omega) (by have e : nm - (pa + 1) = nm - pa - 1 := (by omega); rw [← h3, e]; first | rw [rowR_idle (s := (z2, L2)) (by grind)] | (have e2 : nm - ge = 0 := (by omega); rw [e2]; rfl)) (hh2) (hb2) (hz2) _ _ (hP) (hD) hS ls (lv_sub hl [1, 2, 0] rfl)
                  · skip
                    have k_52 : ¬ nm ≤ ge := fun h9 => c_52 ((nI_leI (a := nm) (b := ge) (by omega) (by omega)).mpr h9)
                    refine lv_aload_n hx hb dX0_workOut_55 rfl (lv_at hl 0 rfl) ?_
                    refine va_get (D := D) (ci := 0) (v := .ref aOP) (C := RX0) (T := TX0) (N := 5) hx hb hts inX0 hown hK hP 0 rfl rfl 0 (by decide) fl9 (fun _ h9 => h9) rfl dX0_workOut_56 ?_
                    refine lv_iload_n hx hb dX0_workOut_59 rfl (lv_at hl 2 rfl) ?_
                    refine m_iald (k := pa) hx hb hK hP 1 0 rfl rfl (by omega) (by decide) dX0_workOut_60 ?_
                    refine lv_if_ge (tgt := 85) hx hb dX0_workOut_61 (by decide) (fun c_61 => ?_) (fun c_61 => ?_)
                    · skip
                      refine lv_iinc (v := (nI (pa + 1))) (lv' := [(2, .int (nI (pa + 1))), (0, .ref aB), (1, .ref aT), (3, .int (nI ge))]) hx hb dX0_workOut_85 hl (k := 2) rfl (nI_inc pa 1 (by decide)) (by decide) rfl (fun ls hl => ?_)
                      refine lv_goto (tgt := 37) hx hb dX0_workOut_88 (by decide) ?_
                      exact ih_37 (pa + 1) z2 PY2 GT2 CO2 L2 bm2 (by omega) (by omega) (by have e : nm - (pa + 1) = nm - pa - 1 := (by omega); rw [← h3, e]; first | rw [rowR_idle (s := (z2, L2)) (by grind)] | (have e2 : nm - ge = 0 := (by omega); rw [e2]; rfl)) (hh2) (hb2) (hz2) _ _ (hP) (hD) hS ls (lv_sub hl [1, 2, 0] rfl)
                    · skip
                      refine lv_aload_n hx hb dX0_workOut_64 rfl (lv_at hl 0 rfl) ?_
                      refine va_get (D := D) (ci := 0) (v := .ref aOP) (C := RX0) (T := TX0) (N := 5) hx hb hts inX0 hown hK hP 0 rfl rfl 0 (by decide) fl9 (fun _ h9 => h9) rfl dX0_workOut_65 ?_
                      refine lv_iload_n hx hb dX0_workOut_68 rfl (lv_at hl 3 rfl) ?_
                      refine m_iald (k := ge) hx hb hK hP 1 0 rfl rfl (by omega) (by decide) dX0_workOut_69 ?_
                      refine lv_if_le (tgt := 79) hx hb dX0_workOut_70 (by decide) (fun c_70 => ?_) (fun c_70 => ?_)
                      · skip
                        refine lv_iinc (v := (nI (ge + 1))) (lv' := [(3, .int (nI (ge + 1))), (0, .ref aB), (1, .ref aT), (2, .int (nI pa))]) hx hb dX0_workOut_79 hl (k := 3) rfl (nI_inc ge 1 (by decide)) (by decide) rfl (fun ls hl => ?_)
                        refine lv_goto (tgt := 47) hx hb dX0_workOut_82 (by decide) ?_
                        exact ih_47 (ge + 1) z2 PY2 GT2 CO2 L2 bm2 (by omega) (by omega) (by rw [← h3, rowR_step (g := ge) (by omega), stp_idle (s := (z2, L2)) (fun q => absurd q.2 (by grind))]) (hh2) (hb2) (hz2) _ _ (hP) (hD) hS ls (lv_sub hl [1, 2, 3, 0] rfl)
                      · skip
                        refine lv_aload_n hx hb dX0_workOut_73 rfl (lv_at hl 0 rfl) ?_
                        refine lv_iload_n hx hb dX0_workOut_74 rfl (lv_at hl 2 rfl) ?_
                        refine lv_iload_n hx hb dX0_workOut_75 rfl (lv_at hl 3 rfl) ?_
                        have hlt61b : z2 pa < 0 := (by grind)
                        have hnp1 := nz_pos (z := z2) (k := pa) (n := nm) (by omega) (i32_neg_ne hlt61b)
                        refine m_cVv (As := [.int (nI pa), .int (nI ge)]) (rest := []) (wr := [ob aT 6 [.ref aPU, .ref aP, .int (nI nm), .int td], ob aP 3 [.ref aTD, .ref aTC, .ref aTK, .ref aTR, .ref aDY, .ref aCP, .ref aDB, .ref aCR, .ref aRK, .ref aLF, .int (nI np)], ar cI aCR 40 fCR, ar cI aLF 40 fLF, ar cI aDB 40 fDB]) ⟨hx, hb, hml, hown, hts⟩ (c_X0_addMove l D cI cZ aB aOP aPY aGT aCO z2 PY2 GT2 CO2 bm2 pa ge (by omega) (by omega) (by omega)) (cwV 2 hts gX0_workOut_X0_addMove rfl rfl rfl (by decide +kernel) ⟨Nat.le_of_ble_eq_true rfl, Nat.le_of_ble_eq_true rfl⟩) hN hK hP hD hS hA [0, 1, 2, 3, 4] [5, 6, 7, 8, 9] rfl rfl (by decide) (by decide) (by decide) 0 (ci := 0) rfl rfl rfl rfl hl.1 rfl (Nat.le_of_ble_eq_true rfl) dX0_workOut_76 ⟨Nat.le_of_ble_eq_true rfl, Nat.le_of_ble_eq_true rfl⟩ (fun u_76 H locs hq_76 hP hD hS => ?_)
                        obtain ⟨gOP_76, gPY_76, gGT_76, gCO_76⟩ := u_76
                        have hq_76 : gOP_76 = mvz z2 pa ge ∧ gPY_76 = upd PY2 bm2 (nI pa) ∧ gGT_76 = upd GT2 bm2 (nI ge) ∧ gCO_76 = upd CO2 bm2 (mn z2 pa ge) := hq_76
                        have hP : va_P D vwCl [ob aT 6 [.ref aPU, .ref aP, .int (nI nm), .int td], ob aP 3 [.ref aTD, .ref aTC, .ref aTK, .ref aTR, .ref aDY, .ref aCP, .ref aDB, .ref aCR, .ref aRK, .ref aLF, .int (nI np)], ar cI aCR 40 fCR, ar cI aLF 40 fLF, ar cI aDB 40 fDB, ob aB 0 [.ref aOP, .ref aPY, .ref aGT, .ref aCO, .int (nI (bm2 + 1))], ar cI aOP 10 gOP_76, ar cI aPY 10 gPY_76, ar cI aGT 10 gGT_76, ar cI aCO 10 gCO_76] H := hP
                        have hD : va_D A [ob aT 6 [.ref aPU, .ref aP, .int (nI nm), .int td], ob aP 3 [.ref aTD, .ref aTC, .ref aTK, .ref aTR, .ref aDY, .ref aCP, .ref aDB, .ref aCR, .ref aRK, .ref aLF, .int (nI np)], ar cI aCR 40 fCR, ar cI aLF 40 fLF, ar cI aDB 40 fDB, ob aB 0 [.ref aOP, .ref aPY, .ref aGT, .ref aCO, .int (nI (bm2 + 1))], ar cI aOP 10 gOP_76, ar cI aPY 10 gPY_76, ar cI aGT 10 gGT_76, ar cI aCO 10 gCO_76] := hD
                        refine lv_iinc (v := (nI (ge + 1))) (lv' := [(3, .int (nI (ge + 1))), (0, .ref aB), (1, .ref aT), (2, .int (nI pa))]) hx hb dX0_workOut_79 hl (k := 3) rfl (nI_inc ge 1 (by decide)) (by decide) rfl (fun ls hl => ?_)
                        refine lv_goto (tgt := 47) hx hb dX0_workOut_82 (by decide) ?_
                        have hlt61 : z2 pa < 0 := (by grind)
                        have hlt70 : 0 < z2 ge := (by grind)
                        obtain ⟨q1, q2, q3, q4⟩ := hq_76
                        have hnz := nz_mvz (n := nm) (p := pa) (g := ge) (z := z2) (by omega) (by omega) hlt61 hlt70
                        exact ih_47 (ge + 1) gOP_76 gPY_76 gGT_76 gCO_76 (L2 ++ [(pa, ge, mn z2 pa ge)]) (bm2 + 1) (by omega) (by omega) (by rw [q1, ← h3, rowR_step (g := ge) (by omega), stp, if_pos ⟨hlt61, hlt70⟩]) (by rw [q2, q3, q4]; exact holdsL_push hh2 hb2 pa ge _) (by simp [hb2]) (by rw [q1]; omega) _ _ (hP.sub [5, 6, 7, 8, 9, 0, 1, 2, 3, 4] rfl) (hD.sub [5, 6, 7, 8, 9, 0, 1, 2, 3, 4] (by decide) rfl) hS ls (lv_sub hl [1, 2, 3, 0] rfl)
              exact L_47 ((nm - 0) + 1) 0 z1 PY1 GT1 CO1 L1 bm1 (Nat.lt_succ_self _) (by omega) (by rw [← h2, allR_step (p := pa) (by omega)]) (hh1) (hb1) (hz1) _ _ (hP) (hD) hS ls (lv_sub hl [1, 2, 3, 0] rfl)
        exact L_37 ((nm - 0) + 1) 0 h fPY fGT fCO ([]) 0 (Nat.lt_succ_self _) (by omega) (by have e : k = nm := (by omega); subst e; exact (allR_agr (by omega) (agr_fil hf)).2) (fun i q hq => absurd hq (by simp)) (rfl) (by have := nz_le h nm; omega) _ _ (hP) (hD) hS ls (lv_sub hl [1, 2, 0] rfl)
      · skip
        have k_12 : ¬ nm ≤ k := fun h9 => c_12 ((nI_leI (a := nm) (b := k) (by omega) (by omega)).mpr h9)
        refine lv_aload_n hx hb dX0_workOut_15 rfl (lv_at hl 0 rfl) ?_
        refine va_get (D := D) (ci := 0) (v := .ref aOP) (C := RX0) (T := TX0) (N := 5) hx hb hts inX0 hown hK hP 0 rfl rfl 0 (by decide) fl9 (fun _ h9 => h9) rfl dX0_workOut_16 ?_
        refine lv_iload_n hx hb dX0_workOut_19 rfl (lv_at hl 2 rfl) ?_
        refine lv_aload_n hx hb dX0_workOut_20 rfl (lv_at hl 1 rfl) ?_
        refine va_getN (D := D) (ci := 6) (v := .ref aP) (C := RX6) (T := TX6) (N := 4) hx hb hts inX6 hown hK hP 5 rfl rfl 1 (by decide) fl33 (fun _ h9 => h9) rfl dX0_workOut_21 ?_
        refine lv_iload_n hx hb dX0_workOut_24 rfl (lv_at hl 2 rfl) ?_
        refine m_cVi (As := [.int (nI k)]) (rest := [.int (nI k), .ref aOP]) (wr := [ob aB 0 [.ref aOP, .ref aPY, .ref aGT, .ref aCO, .int 0], ar cI aOP 10 h, ar cI aPY 10 fPY, ar cI aGT 10 fGT, ar cI aCO 10 fCO, ob aT 6 [.ref aPU, .ref aP, .int (nI nm), .int td]]) ⟨hx, hb, hml, hown, hts⟩ (c_X3_netOf l D cI cZ aP aTD aTC aTK aTR aDY aCP aDB aCR aRK aLF fCR fLF fDB np (nI k) (by first | assumption | omega)) (cwV 1 hts gX0_workOut_X3_netOf rfl rfl rfl (by decide +kernel) ⟨Nat.le_of_ble_eq_true rfl, Nat.le_of_ble_eq_true rfl⟩) hN hK hP hD hS hA [6, 7, 8, 9] [0, 1, 2, 3, 4, 5] rfl rfl (by decide) (by decide) (by decide) 0 (ci := 3) rfl rfl rfl rfl hl.1 rfl (Nat.le_of_ble_eq_true rfl) dX0_workOut_25 ⟨Nat.le_of_ble_eq_true rfl, Nat.le_of_ble_eq_true rfl⟩ (fun r_25 u_25 H locs hq_25 hP hD hS => ?_)
        have hq_25 : r_25 = netS fCR fDB fLF (nI k) np := hq_25
        have hP : va_P D vwCl [ob aB 0 [.ref aOP, .ref aPY, .ref aGT, .ref aCO, .int 0], ar cI aOP 10 h, ar cI aPY 10 fPY, ar cI aGT 10 fGT, ar cI aCO 10 fCO, ob aT 6 [.ref aPU, .ref aP, .int (nI nm), .int td], ob aP 3 [.ref aTD, .ref aTC, .ref aTK, .ref aTR, .ref aDY, .ref aCP, .ref aDB, .ref aCR, .ref aRK, .ref aLF, .int (nI np)], ar cI aCR 40 fCR, ar cI aLF 40 fLF, ar cI aDB 40 fDB] H := hP
        have hD : va_D A [ob aB 0 [.ref aOP, .ref aPY, .ref aGT, .ref aCO, .int 0], ar cI aOP 10 h, ar cI aPY 10 fPY, ar cI aGT 10 fGT, ar cI aCO 10 fCO, ob aT 6 [.ref aPU, .ref aP, .int (nI nm), .int td], ob aP 3 [.ref aTD, .ref aTC, .ref aTK, .ref aTR, .ref aDY, .ref aCP, .ref aDB, .ref aCR, .ref aRK, .ref aLF, .int (nI np)], ar cI aCR 40 fCR, ar cI aLF 40 fLF, ar cI aDB 40 fDB] := hD
        refine m_iast (k := k) (x := r_25) hx hb hK hP hD hS 1 0 rfl rfl (by omega) (by decide) dX0_workOut_28 (fun H locs hP hD hS => ?_)
        have hP : va_P D vwCl [ob aB 0 [.ref aOP, .ref aPY, .ref aGT, .ref aCO, .int 0], ar cI aOP 10 (upd h k r_25), ar cI aPY 10 fPY, ar cI aGT 10 fGT, ar cI aCO 10 fCO, ob aT 6 [.ref aPU, .ref aP, .int (nI nm), .int td], ob aP 3 [.ref aTD, .ref aTC, .ref aTK, .ref aTR, .ref aDY, .ref aCP, .ref aDB, .ref aCR, .ref aRK, .ref aLF, .int (nI np)], ar cI aCR 40 fCR, ar cI aLF 40 fLF, ar cI aDB 40 fDB] H := hP
        have hD : va_D A [ob aB 0 [.ref aOP, .ref aPY, .ref aGT, .ref aCO, .int 0], ar cI aOP 10 (upd h k r_25), ar cI aPY 10 fPY, ar cI aGT 10 fGT, ar cI aCO 10 fCO, ob aT 6 [.ref aPU, .ref aP, .int (nI nm), .int td], ob aP 3 [.ref aTD, .ref aTC, .ref aTK, .ref aTR, .ref aDY, .ref aCP, .ref aDB, .ref aCR, .ref aRK, .ref aLF, .int (nI np)], ar cI aCR 40 fCR, ar cI aLF 40 fLF, ar cI aDB 40 fDB] := hD
        refine lv_iinc (v := (nI (k + 1))) (lv' := [(2, .int (nI (k + 1))), (0, .ref aB), (1, .ref aT)]) hx hb dX0_workOut_29 hl (k := 2) rfl (nI_inc k 1 (by decide)) (by decide) rfl (fun ls hl => ?_)
        refine lv_goto (tgt := 7) hx hb dX0_workOut_32 (by decide) ?_
        exact ih_7 (k + 1) (upd h k r_25) (by omega) (by omega) (fil_step hf hq_25) _ _ (hP) (hD) hS ls (lv_sub hl [1, 2, 0] rfl)
  exact L_7 ((nm - 0) + 1) 0 fOP (Nat.lt_succ_self _) (by omega) (fil_0.symm) _ _ (hP) (hD) hS ls (lv_sub hl [1, 2, 0] rfl)
