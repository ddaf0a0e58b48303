/-! the reference's moves: two pointers -/
def remR (nm : Nat) (s : BS) (p g : Nat) : BS := if p < nm then allR nm (nm - p - 1) (p + 1) (rowR p (nm - g) g s) else s
theorem rowR_skip {p d : Nat} {s : BS} : ∀ {c g : Nat}, (∀ j, g ≤ j → j < g + c → ¬ 0 < s.1 j) → rowR p (c + d) g s = rowR p d (g + c) s
  | 0, g, _ => by simp
  | c + 1, g, h => by
    have e : c + 1 + d = (c + d) + 1 := by omega
    rw [e]
    show rowR p (c + d) (g + 1) (stp s p g) = _
    rw [stp_idle (fun q => h g (Nat.le_refl _) (by omega) q.2), rowR_skip (fun j h1 h2 => h j (by omega) (by omega))]
    congr 1; omega
theorem remR_pay {nm p g : Nat} {s : BS} (hp : p < nm) (hg : g ≤ nm) (h : ¬ s.1 p < 0) (hz : ∀ j, j < g → ¬ 0 < s.1 j) : remR nm s p g = remR nm s (p + 1) g := by
  unfold remR
  rw [if_pos hp, rowR_idle h]
  by_cases q : p + 1 < nm
  · rw [if_pos q]
    have e : nm - p - 1 = nm - (p + 1) := by omega
    rw [e, allR_step q]
    congr 1
    have e2 : nm - 0 = g + (nm - g) := by omega
    rw [e2, rowR_skip (fun j _ h2 => hz j (by omega)), Nat.zero_add]
  · rw [if_neg q]
    have e : nm - p - 1 = 0 := by omega
    rw [e]; rfl
theorem remR_get {nm p g : Nat} {s : BS} (hp : p < nm) (hg : g < nm) (h : ¬ 0 < s.1 g) : remR nm s p g = remR nm s p (g + 1) := by
  unfold remR
  rw [if_pos hp, if_pos hp, rowR_step hg, stp_idle (fun q => h q.2)]
theorem mn_le {z : Nat → Int32} {p g : Nat} (h1 : z p < 0) (h2 : 0 < z g) (hz : (z p).toInt ≠ -2147483648) : mvz z p g p = z p + mn z p g ∧ mvz z p g g = z g - mn z p g ∧ (¬ mvz z p g p < 0 ∨ ¬ 0 < mvz z p g g) := by
  have hne := i32_np h1 h2
  have e1 : mvz z p g p = z p + mn z p g := by unfold mvz; rw [pk_un hne, pk_us]
  have e2 : mvz z p g g = z g - mn z p g := by unfold mvz; rw [pk_us, pk_un (fun e => hne e.symm)]
  refine ⟨e1, e2, ?_⟩
  by_cases hc : z g < -(z p)
  · right
    have e3 : mn z p g = z g := by unfold mn; rw [if_pos hc]
    rw [e2, e3, Int32.sub_self]
    exact Int32.lt_irrefl
  · left
    have e3 : mn z p g = -(z p) := by unfold mn; rw [if_neg hc]
    rw [e1, e3, Int32.add_right_neg]
    exact Int32.lt_irrefl
theorem mvz_idle {z : Nat → Int32} {p g : Nat} (h1 : z p < 0) (h2 : 0 < z g) : ¬ (mvz z p g p < 0 ∧ 0 < mvz z p g g) := by
  have hne := i32_np h1 h2
  have e1 : mvz z p g p = z p + mn z p g := by unfold mvz; rw [pk_un hne, pk_us]
  have e2 : mvz z p g g = z g - mn z p g := by unfold mvz; rw [pk_us, pk_un (fun e => hne e.symm)]
  rintro ⟨q1, q2⟩
  by_cases hc : z g < -(z p)
  · have e3 : mn z p g = z g := by unfold mn; rw [if_pos hc]
    rw [e2, e3, Int32.sub_self] at q2
    exact absurd q2 (by decide)
  · have e3 : mn z p g = -(z p) := by unfold mn; rw [if_neg hc]
    rw [e1, e3, Int32.add_right_neg] at q1
    exact absurd q1 (by decide)
theorem remR_move {nm p g : Nat} {z : Nat → Int32} {L : List (Nat × Nat × Int32)} (hp : p < nm) (hg : g < nm) (h1 : z p < 0) (h2 : 0 < z g) : remR nm (z, L) p g = remR nm (mvz z p g, L ++ [(p, g, mn z p g)]) p g := by
  unfold remR
  rw [if_pos hp, if_pos hp, rowR_step hg, rowR_step hg]
  have e1 : stp (z, L) p g = (mvz z p g, L ++ [(p, g, mn z p g)]) := by unfold stp; rw [if_pos ⟨h1, h2⟩]
  have e2 : stp (mvz z p g, L ++ [(p, g, mn z p g)]) p g = (mvz z p g, L ++ [(p, g, mn z p g)]) := stp_idle (mvz_idle h1 h2)
  rw [e1, e2]
/-- moves are only put behind -/
theorem stp_app (s : BS) (p g : Nat) : ∃ M, (stp s p g).2 = s.2 ++ M := by
  unfold stp
  split
  · exact ⟨_, rfl⟩
  · exact ⟨[], by simp⟩
theorem rowR_app (p : Nat) : ∀ (c g : Nat) (s : BS), ∃ M, (rowR p c g s).2 = s.2 ++ M
  | 0, _, s => ⟨[], by simp [rowR]⟩
  | c + 1, g, s => by
    obtain ⟨M, hM⟩ := stp_app s p g
    obtain ⟨M2, hM2⟩ := rowR_app p c (g + 1) (stp s p g)
    exact ⟨M ++ M2, by show (rowR p c (g + 1) (stp s p g)).2 = _; rw [hM2, hM, List.append_assoc]⟩
theorem allR_app (nm : Nat) : ∀ (c p : Nat) (s : BS), ∃ M, (allR nm c p s).2 = s.2 ++ M
  | 0, _, s => ⟨[], by simp [allR]⟩
  | c + 1, p, s => by
    obtain ⟨M, hM⟩ := rowR_app p nm 0 s
    obtain ⟨M2, hM2⟩ := allR_app nm c (p + 1) (rowR p nm 0 s)
    exact ⟨M ++ M2, by show (allR nm c (p + 1) (rowR p nm 0 s)).2 = _; rw [hM2, hM, List.append_assoc]⟩
theorem remR_app (nm : Nat) (s : BS) (p g : Nat) : ∃ M, (remR nm s p g).2 = s.2 ++ M := by
  unfold remR
  split
  · obtain ⟨M, hM⟩ := rowR_app p (nm - g) g s
    obtain ⟨M2, hM2⟩ := allR_app nm (nm - p - 1) (p + 1) (rowR p (nm - g) g s)
    exact ⟨M ++ M2, by rw [hM2, hM, List.append_assoc]⟩
  · exact ⟨[], by simp⟩
theorem stp_few {nm p g : Nat} {s : BS} (hp : p < nm) (hg : g < nm) : (stp s p g).2.length + nz (stp s p g).1 nm ≤ s.2.length + nz s.1 nm := by
  unfold stp
  split
  · rename_i h
    have := nz_mvz hp hg h.1 h.2
    simp only [List.length_append, List.length_cons, List.length_nil]; omega
  · exact Nat.le_refl _
theorem rowR_few {nm p : Nat} (hp : p < nm) : ∀ {c g : Nat} {s : BS}, g + c ≤ nm → (rowR p c g s).2.length + nz (rowR p c g s).1 nm ≤ s.2.length + nz s.1 nm
  | 0, _, _, _ => Nat.le_refl _
  | c + 1, g, s, h => Nat.le_trans (rowR_few hp (c := c) (g := g + 1) (s := stp s p g) (by omega)) (stp_few hp (by omega))
theorem allR_few {nm : Nat} : ∀ {c p : Nat} {s : BS}, p + c ≤ nm → (allR nm c p s).2.length + nz (allR nm c p s).1 nm ≤ s.2.length + nz s.1 nm
  | 0, _, _, _ => Nat.le_refl _
  | c + 1, p, s, h => Nat.le_trans (allR_few (c := c) (p := p + 1) (s := rowR p nm 0 s) (by omega)) (rowR_few (by omega) (by omega))
theorem movesL_few (c d f : Nat → Int32) (np nm : Nat) : (movesL c d f np nm).length ≤ nm := by
  have h := allR_few (nm := nm) (c := nm) (p := 0) (s := (netsF c d f np, [])) (by omega)
  have h2 := nz_le (netsF c d f np) nm
  simp only [List.length_nil] at h
  show (allR nm nm 0 (netsF c d f np, [])).2.length ≤ nm
  omega
theorem remR_start {nm : Nat} {s : BS} : (remR nm s 0 0).2 = (allR nm nm 0 s).2 := by
  unfold remR
  by_cases q : 0 < nm
  · rw [if_pos q]
    have e := allR_step (nm := nm) (p := 0) (s := s) q
    rw [show nm - 0 = nm from rfl] at e
    rw [e]; rfl
  · have e : nm = 0 := by omega
    subst e; rfl
theorem remR_end {nm p g : Nat} {s : BS} (h : nm ≤ p ∨ (nm ≤ g ∧ ∀ j, j < nm → ¬ 0 < s.1 j)) : remR nm s p g = s := by
  unfold remR
  rcases h with h | ⟨h1, h2⟩
  · rw [if_neg (by omega)]
  · split
    · rename_i hp
      have e : nm - g = 0 := by omega
      rw [e]
      have key : ∀ c p, allR nm c p s = s := by
        intro c
        induction c with
        | zero => intro p; rfl
        | succ c ih =>
          intro p
          show allR nm c (p + 1) (rowR p nm 0 s) = s
          have e2 : rowR p nm 0 s = s := by
            have := rowR_skip (p := p) (d := 0) (s := s) (c := nm) (g := 0) (fun j _ h3 => h2 j (by omega))
            rw [Nat.add_zero] at this
            rw [this]; rfl
          rw [e2]; exact ih (p + 1)
      exact key _ _
    · rfl
theorem mvAns_none {L : List (Nat × Nat × Int32)} {k x : Int32} (hl : L.length ≤ 10) (h0 : ¬ k < 0) (h : ∀ j, j < L.length → ¬ nI j = k) : mvAns L k x = -1 := by
  unfold mvAns
  rw [if_neg]
  rintro ⟨h1, h2⟩
  obtain ⟨j, hj, e⟩ := vp_in_of (vp_in_range h0 h2 (Nat.le_refl _) (by omega)) (by omega)
  exact h j hj e.symm
theorem mvAns_what {L : List (Nat × Nat × Int32)} {k x : Int32} (h : k < 0 ∨ x < 0 ∨ ¬ x ≤ 2) : mvAns L k x = -1 := by
  unfold mvAns
  rcases h with h | h
  · rw [if_neg (fun q => by have := q.1; rw [i32_le, ti0] at this; rw [i32_lt, ti0] at h; omega)]
  · have hx : ¬ x = 0 ∧ ¬ x = 1 ∧ ¬ x = 2 := by
      refine ⟨?_, ?_, ?_⟩ <;> (intro e; subst e; rcases h with h | h <;> exact absurd h (by decide))
    split
    · split
      · rw [if_neg hx.1, if_neg hx.2.1, if_neg hx.2.2]
      · rfl
    · rfl
theorem mvAns_hit {L M : List (Nat × Nat × Int32)} {p g : Nat} {c x : Int32} {F : List (Nat × Nat × Int32)} (hF : F = (L ++ [(p, g, c)]) ++ M) (hl : F.length ≤ 10) : mvAns F (nI L.length) x = (if x = 0 then nI p else if x = 1 then nI g else if x = 2 then c else -1) := by
  have hlen : L.length < F.length := by rw [hF]; simp only [List.length_append, List.length_cons, List.length_nil]; omega
  unfold mvAns
  rw [if_pos ⟨nI_pos' (by omega), nI_lt hlen (by omega)⟩]
  have e : ix (nI L.length) = L.length := nI_clamp (by omega)
  rw [e, hF, List.append_assoc, List.getElem?_append_right (Nat.le_refl _), Nat.sub_self]
  rfl
/-! the reference's boat -/
theorem nI_neg {v : Nat} (hv : v < 2 ^ 32) : nI v < 0 ↔ ¬ v < 2 ^ 31 := by
  rw [i32_lt, ti0, tn_int, pk_tn hv]
  split <;> omega
theorem bit_s {v k : Nat} (hv : v < 2 ^ 31) (hk : k < 32) : (nI v >>> (nI k &&& 31)) &&& 1 = nI (bt v k) := by
  rw [pk_shrN hv (nI k &&& 31) k (sh_s k hk)]
  have h := pk_andN (n := v / 2 ^ k) (Nat.lt_of_le_of_lt (Nat.div_le_self _ _) (Nat.lt_trans hv (by decide))) (m := 1) 1 (by decide)
  rw [h]; rfl
theorem pow_s : ∀ n, n ≤ 10 → (1 : Int32) <<< (nI n &&& 31) = nI (2 ^ n) := by decide +kernel
theorem bt_zero {v n k : Nat} (hv : v < 2 ^ n) (hk : n ≤ k) : bt v k = 0 := by
  unfold bt
  rw [Nat.div_eq_of_lt (Nat.lt_of_lt_of_le hv (Nat.pow_le_pow_right (by decide) hk))]
theorem cntB_full {v n : Nat} (hv : v < 2 ^ n) (hn : n ≤ 10) : cntB v n = cntB v 10 := by
  have key : ∀ d, cntB v (n + d) = cntB v n := by
    intro d
    induction d with
    | zero => rfl
    | succ d ih => show cntB v (n + d) + bt v (n + d) = _; rw [ih, bt_zero hv (by omega)]; rfl
  have := key (10 - n)
  rw [show n + (10 - n) = 10 by omega] at this
  exact this.symm
theorem bt_mul {v k : Nat} {f p : Int32} : f + nI (bt v k) * p = if bt v k = 1 then f + p else f := by
  have h := bt_le v k
  by_cases q : bt v k = 1
  · rw [if_pos q, q]
    have : nI 1 * p = p := by show (1 : Int32) * p = p; exact Int32.one_mul p
    rw [this]
  · have e : bt v k = 0 := by omega
    rw [if_neg q, e]
    have : nI 0 * p = 0 := by show (0 : Int32) * p = 0; exact Int32.zero_mul
    rw [this, Int32.add_zero]
/-! the reference's decree in use -/
def mLeft (ru : Nat → Int32) (lf rk dy : Int32) : Int32 :=
  if ¬ (ru 9 < 0 ∨ dy < ru 9) ∨ ru (ix rk) < 0 then lf else if lf - (if ru 8 < 0 then 0 else ru 8) ≤ 0 then lf else lf - (lf - (if ru 8 < 0 then 0 else ru 8)) * ru (ix rk) / 100
def mRank (ru : Nat → Int32) (rk dy : Int32) : Int32 := if (ru 9 < 0 ∨ dy < ru 9) ∧ ¬ ru (4 + ix rk) < 0 then ru (4 + ix rk) else rk
def mLess (ru lf rk dy : Nat → Int32) : Nat → Int32
  | 0 => 0
  | n + 1 => mLess ru lf rk dy n + (lf n - mLeft ru (lf n) (rk n) (dy n))
theorem ix4 {x : Int32} (h : vp_in x 4) : vp_in (4 + x) 20 ∧ ix (4 + x) = 4 + ix x := by
  obtain ⟨j, hj, rfl⟩ := vp_in_of h (by decide)
  have e : (4 : Int32) + nI j = nI (4 + j) := nI_add 4 j
  rw [e]
  refine ⟨vp_in_nI (by omega) (by decide), ?_⟩
  show (nI (4 + j)).toNatClampNeg = 4 + (nI j).toNatClampNeg
  rw [nI_clamp (by omega), nI_clamp (by omega)]
theorem mv_low {z : Nat → Int32} {p g : Nat} (h : ∀ j, j < g → ¬ 0 < z j) (h1 : z p < 0) (h2 : 0 < z g) {j : Nat} (hj : j < g) : ¬ 0 < mvz z p g j := by
  by_cases q : j = p
  · subst q
    have hne := i32_np h1 h2
    have e1 : mvz z j g j = z j + mn z j g := by unfold mvz; rw [pk_un hne, pk_us]
    rw [e1]
    by_cases hc : z g < -(z j)
    · have e3 : mn z j g = z g := by unfold mn; rw [if_pos hc]
      rw [e3, i32_lt, ti0]
      rw [i32_lt, ti0] at h1 h2
      have b := Int32.le_toInt (z j)
      by_cases hm : (z j).toInt = -2147483648
      · have b2 := Int32.toInt_lt (z g)
        rw [i32_add (by omega) (by omega)]; omega
      · rw [i32_lt, i32_neg hm] at hc
        rw [i32_add (by omega) (by omega)]; omega
    · have e3 : mn z j g = -(z j) := by unfold mn; rw [if_neg hc]
      rw [e3, Int32.add_right_neg]
      exact Int32.lt_irrefl
  · have hne : j ≠ g := by omega
    have e : mvz z p g j = z j := by unfold mvz; rw [pk_un hne, pk_un q]
    rw [e]; exact h j hj
theorem mn_a {z : Nat → Int32} {p g : Nat} (h : z g ≤ -(z p)) : mn z p g = z g := by
  unfold mn
  split
  · rfl
  · rename_i q
    rw [i32_le] at h
    rw [i32_lt] at q
    apply Int32.toInt_inj.mp; omega
theorem mn_b {z : Nat → Int32} {p g : Nat} (h : ¬ z g ≤ -(z p)) : mn z p g = -(z p) := by
  unfold mn
  split
  · rename_i q
    rw [i32_le] at h
    rw [i32_lt] at q
    exfalso; omega
  · rfl
theorem x2_of {x : Int32} (h0 : ¬ x < 0) (h1 : x ≤ 2) (h2 : ¬ x = 0) (h3 : ¬ x = 1) : x = 2 := by
  have t0 := sw_ne (z := 0) (by decide) h2
  have t1 := sw_ne (z := 1) (by decide) h3
  have e2 : (2 : Int32).toInt = 2 := by decide
  rw [i32_lt, ti0] at h0
  rw [i32_le, e2] at h1
  apply Int32.toInt_inj.mp
  rw [e2]; omega
theorem x3_of {x : Int32} (h0 : ¬ x < 0) (h1 : ¬ 3 < x) : ¬ (¬ x = 0 ∧ ¬ x = 1 ∧ ¬ x = 2 ∧ ¬ x = 3) := by
  rintro ⟨q0, q1, q2, q3⟩
  have t0 := sw_ne (z := 0) (by decide) q0
  have t1 := sw_ne (z := 1) (by decide) q1
  have t2 := sw_ne (z := 2) (by decide) q2
  have t3 := sw_ne (z := 3) (by decide) q3
  have e3 : (3 : Int32).toInt = 3 := by decide
  rw [i32_lt, ti0] at h0
  rw [i32_lt, e3] at h1
  omega
theorem crew_no {v nm : Nat} (hnm : nm ≤ 10) (hv : v < 2 ^ 31) (h : nI (2 ^ nm) ≤ nI v) (h2 : v < 2 ^ nm) : False := by
  have hp : 2 ^ nm ≤ 2 ^ 10 := Nat.pow_le_pow_right (by decide) hnm
  have := (nI_leI (a := 2 ^ nm) (b := v) (by omega) hv).mp h
  omega
