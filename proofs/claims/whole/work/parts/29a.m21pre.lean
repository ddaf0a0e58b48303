/-! the two sides answer alike: what is said of numbers alone -/
theorem i32_ext {x y : Int32} (h : x.toInt = y.toInt) : x = y := Int32.toInt_inj.mp h
theorem sI_z {f : Nat → Int} : ∀ {n : Nat}, (∀ k, k < n → f k = 0) → sI f n = 0
  | 0, _ => rfl
  | n + 1, h => by
    have e1 : sI f n = 0 := sI_z (fun k hk => h k (by omega))
    have e2 := h n (by omega)
    show sI f n + f n = 0
    omega
theorem sI_term {f : Nat → Int} : ∀ {n : Nat}, (∀ k, k < n → 0 ≤ f k) → ∀ m, m < n → f m ≤ sI f n
  | 0, _, m, hm => absurd hm (Nat.not_lt_zero m)
  | n + 1, h, m, hm => by
    have h1 : 0 ≤ sI f n := sI_nonneg (fun k hk => h k (by omega))
    have h2 := h n (by omega)
    show f m ≤ sI f n + f n
    by_cases q : m = n
    · rw [q]; omega
    · have h3 := sI_term (f := f) (n := n) (fun k hk => h k (by omega)) m (by omega)
      omega
theorem odF_sur {rk : Nat → Int32} {np k : Nat} (hro : rkOk rk np) (hk : k < np) : ∃ i, i < np ∧ odF rk np i = k := by
  by_cases z : ∃ i, i < np ∧ odF rk np i = k
  · exact z
  · exfalso
    have e := sI_places hro (fun j => if k = j then (1 : Int) else 0)
    rw [sI_one, if_pos hk] at e
    have e2 : sI (fun i => if k = odF rk np i then (1 : Int) else 0) np = 0 := sI_z (fun i hi => if_neg (fun y => z ⟨i, hi, y.symm⟩))
    rw [e2] at e
    exact absurd e (by decide)
section CRES
variable {np nm : Nat} {fDB fCR fPU du rk PD HS UN FA PD' HS' UN' FA' : Nat → Int32} {R R' : Nat}
theorem ClearRes_one (hro : rkOk rk np) (h : ClearRes np nm fDB fCR fPU du rk PD HS UN FA R) (h' : ClearRes np nm fDB fCR fPU du rk PD' HS' UN' FA' R') :
    R = R' ∧ (∀ k, k < np → PD k = PD' k) ∧ (∀ m, m < nm → HS m = HS' m) ∧ (∀ m, m < nm → UN m = UN' m) ∧ (∀ m, m < nm → FA m = FA' m) := by
  obtain ⟨a1, -, a3, a4, a5, a6⟩ := h
  obtain ⟨b1, -, b3, b4, b5, b6⟩ := h'
  have e : R = R' := isR_one a1 b1
  subst e
  refine ⟨rfl, fun k hk => ?_, fun m hm => ?_, fun m hm => ?_, fun m hm => ?_⟩
  · obtain ⟨i, hi, rfl⟩ := odF_sur hro hk
    exact i32_ext ((a3 i hi).trans (b3 i hi).symm)
  · exact i32_ext ((a4 m hm).trans (b4 m hm).symm)
  · exact i32_ext ((a5 m hm).trans (b5 m hm).symm)
  · exact (a6 m hm).trans (b6 m hm).symm
theorem ClearRes_pd (hro : rkOk rk np) (hdu : ∀ k, k < np → 0 ≤ (du k).toInt ∧ (du k).toInt ≤ 999) (h : ClearRes np nm fDB fCR fPU du rk PD HS UN FA R) : ∀ k, k < np → 0 ≤ (PD k).toInt ∧ (PD k).toInt ≤ (du k).toInt := by
  intro k hk
  obtain ⟨-, -, a3, -⟩ := h
  obtain ⟨i, hi, rfl⟩ := odF_sur hro hk
  have hw : ∀ k, 0 ≤ owG du np k := fun k => (owG_nn hdu k).1
  have e : (PD (odF rk np i)).toInt = fillP (dbN fDB) (owG du np) (odF rk np) (dbN fDB (odF rk np i)) (TRF fDB fCR (owG du np) (odF rk np) np (fun m => (fPU m).toInt) R (dbN fDB (odF rk np i))) i := a3 i hi
  have b1 := fillP_nonneg (db := dbN fDB) (od := odF rk np) hw (dbN fDB (odF rk np i)) (TRF fDB fCR (owG du np) (odF rk np) np (fun m => (fPU m).toInt) R (dbN fDB (odF rk np i))) i
  have b2 := fillP_le (db := dbN fDB) (od := odF rk np) hw (dbN fDB (odF rk np i)) (TRF fDB fCR (owG du np) (odF rk np) np (fun m => (fPU m).toInt) R (dbN fDB (odF rk np i))) i
  have e3 : owG du np (odF rk np i) = (du (odF rk np i)).toInt := by unfold owG; rw [if_pos hk]
  rw [e3] at b2
  rw [e]
  exact ⟨b1, b2⟩
theorem pS_all {F : Nat → Int} {a : Nat → Nat} (h : ∀ k, k < np → a k < nm) : sI (fun m => pS F a m np) nm = sI F np := by
  have e : sI (fun m => pS F a m np) nm = sI (fun i => sI (fun m => if a i = m then F i else 0) nm) np := sI_swap (f := fun m i => if a i = m then F i else 0) np nm
  rw [e]
  exact sI_congr (fun k hk => by rw [sI_one, if_pos (h k hk)])
theorem ClearRes_sum {fRK fLF : Nat → Int32} (P : papOk np nm fDB fCR fRK fLF fPU) (hro : rkOk rk np) (hdu : ∀ k, k < np → 0 ≤ (du k).toInt ∧ (du k).toInt ≤ 999) (h : ClearRes np nm fDB fCR fPU du rk PD HS UN FA R) :
    (∀ m, m < nm → 0 ≤ (HS m).toInt) ∧ sI (fun m => (HS m).toInt) nm = sI (fun m => (fPU m).toInt) nm := by
  have C := clcM_ok P hro hdu
  obtain ⟨a1, -, a3, a4, -, a6⟩ := h
  have a1 : isR nm (TRF fDB fCR (owG du np) (odF rk np) np (fun m => (fPU m).toInt)) R := a1
  have a4 : ∀ m, m < nm → (HS m).toInt = (fPU m).toInt + rcF fDB fCR (owG du np) (odF rk np) np (TRF fDB fCR (owG du np) (odF rk np) np (fun m => (fPU m).toInt) R) m - TRF fDB fCR (owG du np) (odF rk np) np (fun m => (fPU m).toInt) R m := a4
  have M : MSt np nm fDB (odF rk np) (owG du np) (TRF fDB fCR (owG du np) (odF rk np) np (fun m => (fPU m).toInt) R) (fun m => failR (TRF fDB fCR (owG du np) (odF rk np) np (fun m => (fPU m).toInt)) m R) PD FA := ⟨a3, a6⟩
  have e : ∀ m, m < nm → (HS m).toInt = (fPU m).toInt + pS (fun k => (PD k).toInt) (dbN fCR) m np - pS (fun k => (PD k).toInt) (dbN fDB) m np := fun m hm => by
    rw [a4 m hm, MSt_recv C hro M m, MSt_paid C hro M (TRF_bound C R m hm)]
  constructor
  · intro m hm
    have z := a1.2 m hm
    have z2 : TRF fDB fCR (owG du np) (odF rk np) np (fun m => (fPU m).toInt) (R + 1) m = min (TRF fDB fCR (owG du np) (odF rk np) np (fun m => (fPU m).toInt) R m) ((fPU m).toInt + rcF fDB fCR (owG du np) (odF rk np) np (TRF fDB fCR (owG du np) (odF rk np) np (fun m => (fPU m).toInt) R) m) := by
      rw [← T2_TR]; rfl
    rw [z2] at z
    rw [a4 m hm]
    omega
  · have h1 : sI (fun m => (HS m).toInt) nm = sI (fun m => ((fPU m).toInt + pS (fun k => (PD k).toInt) (dbN fCR) m np) - pS (fun k => (PD k).toInt) (dbN fDB) m np) nm := sI_congr e
    have h2 : sI (fun m => pS (fun k => (PD k).toInt) (dbN fCR) m np) nm = sI (fun k => (PD k).toInt) np := pS_all (fun k hk => ix_lt (P.2.2.2.1 k hk))
    have h3 : sI (fun m => pS (fun k => (PD k).toInt) (dbN fDB) m np) nm = sI (fun k => (PD k).toInt) np := pS_all (fun k hk => ix_lt (P.2.2.1 k hk))
    rw [h1, sI_sub (f := fun m => (fPU m).toInt + pS (fun k => (PD k).toInt) (dbN fCR) m np) (g := fun m => pS (fun k => (PD k).toInt) (dbN fDB) m np), sI_addF (f := fun m => (fPU m).toInt) (g := fun m => pS (fun k => (PD k).toInt) (dbN fCR) m np), h2, h3]
    omega
end CRES
/-! THREAD: what the moves bring is what is above 0 -/
section THR
variable {c d f : Nat → Int32} {np nm : Nat}
theorem net_val {m : Nat} (hnp : np ≤ 40) (hm : m < nm) (hnm : nm ≤ 10) (hc : ∀ k, k < np → vp_in (c k) nm) (hd : ∀ k, k < np → vp_in (d k) nm) (hf : ∀ k, k < np → 0 ≤ (f k).toInt ∧ (f k).toInt ≤ 999) :
    ∀ n, n ≤ np → (netS c d f (nI m) n).toInt = pS (fun k => (f k).toInt) (dbN c) m n - pS (fun k => (f k).toInt) (dbN d) m n := by
  intro n
  induction n with
  | zero => intro _; simp [netS, pS, sI]
  | succ n ih =>
    intro hn
    have ih := ih (by omega)
    have b1 := pS_bound hf (a := dbN c) m (show n ≤ np by omega)
    have b2 := pS_bound hf (a := dbN d) m (show n ≤ np by omega)
    have b3 := hf n (by omega)
    have e1 : pS (fun k => (f k).toInt) (dbN c) m (n + 1) = pS (fun k => (f k).toInt) (dbN c) m n + (if dbN c n = m then (f n).toInt else 0) := rfl
    have e2 : pS (fun k => (f k).toInt) (dbN d) m (n + 1) = pS (fun k => (f k).toInt) (dbN d) m n + (if dbN d n = m then (f n).toInt else 0) := rfl
    have hcm : c n = nI m ↔ dbN c n = m := ix_is (hc n (by omega)) (by omega) (by omega)
    have hdm : d n = nI m ↔ dbN d n = m := ix_is (hd n (by omega)) (by omega) (by omega)
    have ea : (netS c d f (nI m) n + f n).toInt = (netS c d f (nI m) n).toInt + (f n).toInt := i32_add (by omega) (by omega)
    have eb : (netS c d f (nI m) n - f n).toInt = (netS c d f (nI m) n).toInt - (f n).toInt := i32_sub (by omega) (by omega)
    have ec : (netS c d f (nI m) n + f n - f n).toInt = (netS c d f (nI m) n + f n).toInt - (f n).toInt := i32_sub (by omega) (by omega)
    rw [e1, e2]
    simp only [netS]
    by_cases z1 : d n = nI m
    · by_cases z2 : c n = nI m
      · rw [if_pos z1, if_pos z2, if_pos (hcm.mp z2), if_pos (hdm.mp z1), ec, ea]; omega
      · rw [if_pos z1, if_neg z2, if_neg (fun y => z2 (hcm.mpr y)), if_pos (hdm.mp z1), eb]; omega
    · by_cases z2 : c n = nI m
      · rw [if_neg z1, if_pos z2, if_pos (hcm.mp z2), if_neg (fun y => z1 (hdm.mpr y)), ea]; omega
      · rw [if_neg z1, if_neg z2, if_neg (fun y => z2 (hcm.mpr y)), if_neg (fun y => z1 (hdm.mpr y))]; omega
def psI (z : Nat → Int32) (n : Nat) : Int := sI (fun j => max (z j).toInt 0) n
def ngI (z : Nat → Int32) (n : Nat) : Int := sI (fun j => max (-(z j).toInt) 0) n
theorem ps_ng (z : Nat → Int32) (n : Nat) : psI z n - ngI z n = sI (fun j => (z j).toInt) n := by
  unfold psI ngI
  rw [← sI_sub]
  exact sI_congr (fun j _ => by omega)
theorem sI_upd (F : Int32 → Int) (z : Nat → Int32) (k : Nat) (x : Int32) : ∀ n, k < n → sI (fun j => F (upd z k x j)) n = sI (fun j => F (z j)) n + F x - F (z k) := by
  intro n
  induction n with
  | zero => intro h; exact absurd h (Nat.not_lt_zero k)
  | succ n ih =>
    intro h
    show sI (fun j => F (upd z k x j)) n + F (upd z k x n) = sI (fun j => F (z j)) n + F (z n) + F x - F (z k)
    by_cases q : n = k
    · have e : sI (fun j => F (upd z k x j)) n = sI (fun j => F (z j)) n := sI_congr (fun j hj => by rw [pk_un (by omega)])
      have e2 : upd z k x n = x := by rw [q]; exact pk_us
      rw [e, e2, q]; omega
    · rw [ih (by omega), pk_un q]; omega
theorem mvz_p {z : Nat → Int32} {p g : Nat} (h : p ≠ g) : mvz z p g p = z p + mn z p g := by unfold mvz; rw [pk_un h, pk_us]
theorem mvz_g {z : Nat → Int32} {p g : Nat} (h : p ≠ g) : mvz z p g g = z g - mn z p g := by unfold mvz; rw [pk_us, pk_un (Ne.symm h)]
theorem mvz_o {z : Nat → Int32} {p g j : Nat} (h1 : j ≠ p) (h2 : j ≠ g) : mvz z p g j = z j := by unfold mvz; rw [pk_un h2, pk_un h1]
theorem mv_sum (F : Int32 → Int) {z : Nat → Int32} {p g n : Nat} (hp : p < n) (hg : g < n) (h : p ≠ g) : sI (fun j => F (mvz z p g j)) n = sI (fun j => F (z j)) n + F (z p + mn z p g) - F (z p) + F (z g - mn z p g) - F (z g) := by
  have e1 := sI_upd F (upd z p (z p + mn z p g)) g (upd z p (z p + mn z p g) g - mn z p g) n hg
  have e2 := sI_upd F z p (z p + mn z p g) n hp
  rw [pk_un (Ne.symm h)] at e1
  have e3 : sI (fun j => F (mvz z p g j)) n = sI (fun j => F (upd (upd z p (z p + mn z p g)) g (z g - mn z p g) j)) n := sI_congr (fun j _ => by unfold mvz; rw [pk_un (Ne.symm h)])
  rw [e3]
  omega
theorem mn_val {z : Nat → Int32} {p g : Nat} (b : (z p).toInt ≠ -2147483648) : (mn z p g).toInt = min (z g).toInt (-(z p).toInt) := by
  have e := i32_neg b
  unfold mn
  by_cases q : z g < -(z p)
  · rw [if_pos q]
    rw [i32_lt, e] at q
    omega
  · rw [if_neg q, e]
    rw [i32_lt, e] at q
    omega
def cN (L : List (Nat × Nat × Int32)) : Nat → Int
  | 0 => 0
  | n + 1 => cN L n + (match L[n]? with | some q => q.2.2.toInt | none => 0)
theorem cN_app (L M : List (Nat × Nat × Int32)) : ∀ n, n ≤ L.length → cN (L ++ M) n = cN L n
  | 0, _ => rfl
  | n + 1, h => by
    simp only [cN]
    rw [cN_app L M n (by omega), List.getElem?_append_left (by omega)]
theorem cN_push (L : List (Nat × Nat × Int32)) (q : Nat × Nat × Int32) : cN (L ++ [q]) (L ++ [q]).length = cN L L.length + q.2.2.toInt := by
  have e : (L ++ [q]).length = L.length + 1 := by simp
  have e2 : (L ++ [q])[L.length]? = some q := by simp
  rw [e]
  simp only [cN, e2, cN_app L [q] L.length (Nat.le_refl _)]
def thI (nm : Nat) (C : Int) (s : BS) : Prop := (∀ j, j < nm → -50000 ≤ (s.1 j).toInt ∧ (s.1 j).toInt ≤ 50000) ∧ cN s.2 s.2.length + psI s.1 nm = C ∧ psI s.1 nm = ngI s.1 nm
def dnI (nm P : Nat) (s : BS) : Prop := ∀ p, p < P → ∀ j, j < nm → ¬ (s.1 p < 0 ∧ 0 < s.1 j)
theorem stp_th {p g : Nat} {C : Int} {s : BS} (hp : p < nm) (hg : g < nm) (h : thI nm C s) : thI nm C (stp s p g) := by
  by_cases q : s.1 p < 0 ∧ 0 < s.1 g
  · obtain ⟨h1, h2, h3⟩ := h
    have hpg : p ≠ g := i32_np q.1 q.2
    have bp := h1 p hp
    have bg := h1 g hg
    have em := mn_val (z := s.1) (p := p) (g := g) (by omega)
    have q1 := q.1
    have q2 := q.2
    rw [i32_lt, ti0] at q1 q2
    have e1 : (s.1 p + mn s.1 p g).toInt = (s.1 p).toInt + (mn s.1 p g).toInt := i32_add (by omega) (by omega)
    have e2 : (s.1 g - mn s.1 p g).toInt = (s.1 g).toInt - (mn s.1 p g).toInt := i32_sub (by omega) (by omega)
    have p1 := mv_sum (fun x => max x.toInt 0) (z := s.1) hp hg hpg
    have p2 := mv_sum (fun x => max (-x.toInt) 0) (z := s.1) hp hg hpg
    simp only [e1, e2] at p1 p2
    have p3 : psI (mvz s.1 p g) nm = psI s.1 nm - (mn s.1 p g).toInt := by unfold psI; omega
    have p4 : ngI (mvz s.1 p g) nm = ngI s.1 nm - (mn s.1 p g).toInt := by unfold ngI; omega
    unfold stp
    rw [if_pos q]
    refine ⟨fun j hj => ?_, ?_, ?_⟩
    · show -50000 ≤ (mvz s.1 p g j).toInt ∧ (mvz s.1 p g j).toInt ≤ 50000
      by_cases z1 : j = g
      · rw [z1, mvz_g hpg, e2]; omega
      · by_cases z2 : j = p
        · rw [z2, mvz_p hpg, e1]; omega
        · rw [mvz_o z2 z1]; exact h1 j hj
    · show cN (s.2 ++ [(p, g, mn s.1 p g)]) (s.2 ++ [(p, g, mn s.1 p g)]).length + psI (mvz s.1 p g) nm = C
      rw [cN_push, p3]
      show cN s.2 s.2.length + (mn s.1 p g).toInt + (psI s.1 nm - (mn s.1 p g).toInt) = C
      omega
    · show psI (mvz s.1 p g) nm = ngI (mvz s.1 p g) nm
      rw [p3, p4, h3]
  · rw [stp_idle q]; exact h
theorem stp_dn {p g P : Nat} {C : Int} {s : BS} (hp : p < nm) (hg : g < nm) (h : thI nm C s) (hd : dnI nm P s) : dnI nm P (stp s p g) := by
  by_cases q : s.1 p < 0 ∧ 0 < s.1 g
  · obtain ⟨h1, h2, h3⟩ := h
    have hpg : p ≠ g := i32_np q.1 q.2
    have bp := h1 p hp
    have bg := h1 g hg
    have em := mn_val (z := s.1) (p := p) (g := g) (by omega)
    have q1 := q.1
    have q2 := q.2
    rw [i32_lt, ti0] at q1 q2
    have e2 : (s.1 g - mn s.1 p g).toInt = (s.1 g).toInt - (mn s.1 p g).toInt := i32_sub (by omega) (by omega)
    unfold stp
    rw [if_pos q]
    intro p' hp' j hj z
    have n1 : ¬ s.1 p' < 0 := fun y => hd p' hp' g hg ⟨y, q.2⟩
    have hpp : p' ≠ p := fun e => n1 (by rw [e]; exact q.1)
    have z1 : mvz s.1 p g p' < 0 := z.1
    by_cases e : p' = g
    · rw [e, mvz_g hpg, i32_lt, ti0, e2] at z1
      omega
    · rw [mvz_o hpp e] at z1
      exact n1 z1
  · rw [stp_idle q]; exact hd
theorem stp_row {p g : Nat} {s : BS} (h : ∀ j, j < g → ¬ (s.1 p < 0 ∧ 0 < s.1 j)) : ∀ j, j < g + 1 → ¬ ((stp s p g).1 p < 0 ∧ 0 < (stp s p g).1 j) := by
  intro j hj
  by_cases q : s.1 p < 0 ∧ 0 < s.1 g
  · unfold stp
    rw [if_pos q]
    by_cases e : j = g
    · rw [e]; exact mvz_idle q.1 q.2
    · intro z
      have z2 : 0 < mvz s.1 p g j := z.2
      have z1 : mvz s.1 p g p < 0 := z.1
      by_cases e2 : j = p
      · rw [e2] at z2
        rw [i32_lt, ti0] at z1 z2
        omega
      · rw [mvz_o e2 e] at z2
        exact h j (by omega) ⟨q.1, z2⟩
  · rw [stp_idle q]
    by_cases e : j = g
    · rw [e]; exact q
    · exact h j (by omega)
theorem rowR_all {p : Nat} {C : Int} (hp : p < nm) : ∀ (c g : Nat) (s : BS), g + c = nm → thI nm C s → dnI nm p s → (∀ j, j < g → ¬ (s.1 p < 0 ∧ 0 < s.1 j)) → thI nm C (rowR p c g s) ∧ dnI nm (p + 1) (rowR p c g s)
  | 0, g, s, e, h1, h2, h3 => ⟨h1, fun p' hp' j hj => by
      by_cases z : p' = p
      · rw [z]; exact h3 j (by omega)
      · exact h2 p' (by omega) j hj⟩
  | c + 1, g, s, e, h1, h2, h3 => rowR_all hp c (g + 1) (stp s p g) (by omega) (stp_th hp (by omega) h1) (stp_dn hp (by omega) h1 h2) (stp_row h3)
theorem allR_all {C : Int} : ∀ (c p : Nat) (s : BS), p + c = nm → thI nm C s → dnI nm p s → thI nm C (allR nm c p s) ∧ dnI nm nm (allR nm c p s)
  | 0, p, s, e, h1, h2 => ⟨h1, fun p' hp' => h2 p' (by omega)⟩
  | c + 1, p, s, e, h1, h2 => by
    obtain ⟨a, b⟩ := rowR_all (C := C) (p := p) (nm := nm) (by omega) nm 0 s (by omega) h1 h2 (fun j hj => absurd hj (Nat.not_lt_zero j))
    exact allR_all c (p + 1) _ (by omega) a b
theorem coinsL_of (L : List (Nat × Nat × Int32)) : ∀ n, coinsL L n = Int32.ofInt (cN L n)
  | 0 => by show (0 : Int32) = Int32.ofInt 0; decide
  | n + 1 => by
    simp only [coinsL, cN]
    rw [Int32.ofInt_add, ← coinsL_of L n]
    congr 1
    cases L[n]? with
    | none => decide
    | some q => exact (Int32.ofInt_toInt _).symm
theorem posS_of (z : Nat → Int32) : ∀ n, posS z n = Int32.ofInt (psI z n)
  | 0 => by show (0 : Int32) = Int32.ofInt 0; decide
  | n + 1 => by
    have e : psI z (n + 1) = psI z n + max (z n).toInt 0 := rfl
    have e2 : (if 0 < z n then z n else 0) = Int32.ofInt (max (z n).toInt 0) := by
      by_cases q : 0 < z n
      · rw [if_pos q]
        rw [i32_lt, ti0] at q
        rw [show max (z n).toInt 0 = (z n).toInt by omega, Int32.ofInt_toInt]
      · rw [if_neg q]
        rw [i32_lt, ti0] at q
        rw [show max (z n).toInt 0 = 0 by omega]
        decide
    simp only [posS]
    rw [e, Int32.ofInt_add, ← posS_of z n, e2]
theorem thread_tie (hnp : np ≤ 40) (hnm : nm ≤ 10) (hc : ∀ k, k < np → vp_in (c k) nm) (hd : ∀ k, k < np → vp_in (d k) nm) (hf : ∀ k, k < np → 0 ≤ (f k).toInt ∧ (f k).toInt ≤ 999) :
    coinsL (movesL c d f np nm) (movesL c d f np nm).length = posS (netsF c d f np) nm := by
  have hv : ∀ m, m < nm → (netsF c d f np m).toInt = pS (fun k => (f k).toInt) (dbN c) m np - pS (fun k => (f k).toInt) (dbN d) m np := fun m hm => net_val hnp hm hnm hc hd hf np (Nat.le_refl _)
  have s0 : sI (fun m => (netsF c d f np m).toInt) nm = 0 := by
    rw [sI_congr hv, sI_sub (f := fun m => pS (fun k => (f k).toInt) (dbN c) m np) (g := fun m => pS (fun k => (f k).toInt) (dbN d) m np), pS_all (fun k hk => ix_lt (hc k hk)), pS_all (fun k hk => ix_lt (hd k hk))]
    omega
  have h0 : thI nm (psI (netsF c d f np) nm) (netsF c d f np, []) := by
    refine ⟨fun j hj => ?_, ?_, ?_⟩
    · have b1 := pS_bound hf (a := dbN c) j (Nat.le_refl np)
      have b2 := pS_bound hf (a := dbN d) j (Nat.le_refl np)
      show -50000 ≤ (netsF c d f np j).toInt ∧ (netsF c d f np j).toInt ≤ 50000
      rw [hv j hj]
      omega
    · show (0 : Int) + psI (netsF c d f np) nm = psI (netsF c d f np) nm
      omega
    · show psI (netsF c d f np) nm = ngI (netsF c d f np) nm
      have e := ps_ng (netsF c d f np) nm
      rw [s0] at e
      omega
  obtain ⟨⟨-, h2, h3⟩, hdn⟩ := allR_all nm 0 (netsF c d f np, []) (by omega) h0 (fun p hp => absurd hp (Nat.not_lt_zero p))
  have hps : psI (allR nm nm 0 (netsF c d f np, [])).1 nm = 0 := by
    by_cases q : ∃ p, p < nm ∧ (allR nm nm 0 (netsF c d f np, [])).1 p < 0
    · obtain ⟨p, hp, hn⟩ := q
      exact sI_z (fun j hj => by
        have z := hdn p hp j hj
        have z2 : ¬ 0 < (allR nm nm 0 (netsF c d f np, [])).1 j := fun y => z ⟨hn, y⟩
        rw [i32_lt, ti0] at z2
        omega)
    · rw [h3]
      exact sI_z (fun j hj => by
        have z2 : ¬ (allR nm nm 0 (netsF c d f np, [])).1 j < 0 := fun y => q ⟨j, hj, y⟩
        rw [i32_lt, ti0] at z2
        omega)
  rw [coinsL_of, posS_of]
  congr 1
  rw [hps] at h2
  show cN (allR nm nm 0 (netsF c d f np, [])).2 (allR nm nm 0 (netsF c d f np, [])).2.length = _
  omega
end THR
