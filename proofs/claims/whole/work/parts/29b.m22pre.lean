/-! a DECREE in the class and in the reference -/
section DTIE
variable {fRU cu mv lf rk dy : Nat → Int32} {sp bf : Int32}
theorem tie_left {a b e : Int32} (hr : rulO (ruC cu mv sp bf)) (hj : ∀ j, j < 10 → fRU j = ruC cu mv sp bf j) (hk : vp_in b 4) : mLeft fRU a b e = dLeft cu sp bf a b e := by
  have k4 := ix_lt hk
  have e9 : fRU 9 = bf := (hj 9 (by decide)).trans ruC_9
  have e8 : fRU 8 = sp := (hj 8 (by decide)).trans ruC_8
  have ek : fRU (ix b) = cu (ix b) := (hj _ (by omega)).trans (ruC_c k4)
  have n9 : bf < 0 ↔ bf = -1 := by have z := rulO_neg hr (j := 9) (by decide); rw [ruC_9] at z; exact z
  have n8 : sp < 0 ↔ sp = -1 := by have z := rulO_neg hr (j := 8) (by decide); rw [ruC_8] at z; exact z
  have nk : cu (ix b) < 0 ↔ cu (ix b) = -1 := by have z := rulO_neg hr (j := ix b) (by omega); rw [ruC_c k4] at z; exact z
  unfold mLeft dLeft
  rw [e9, e8, ek]
  by_cases h1 : bf = -1 ∨ e < bf
  · by_cases h2 : cu (ix b) = -1
    · rw [if_pos (Or.inr (nk.mpr h2)), if_neg (fun q => q.1.2 h2)]
    · have es : a - (if sp < 0 then 0 else sp) = (if sp = -1 then a else a - sp) := by
        by_cases z : sp = -1
        · rw [if_pos (n8.mpr z), if_pos z, Int32.sub_zero]
        · rw [if_neg (fun q => z (n8.mp q)), if_neg z]
      rw [if_neg (fun q => q.elim (fun y => y (h1.imp_left n9.mpr)) (fun y => h2 (nk.mp y))), es]
      generalize (if sp = -1 then a else a - sp) = t
      by_cases h3 : 0 < t
      · rw [if_neg (Int32.not_le.mpr h3), if_pos ⟨⟨h1, h2⟩, h3⟩]
      · rw [if_pos (Int32.not_lt.mp h3), if_neg (fun q => h3 q.2)]
  · rw [if_pos (Or.inl (fun y => h1 (y.imp_left n9.mp))), if_neg (fun q => h1 q.1.1)]
theorem tie_rank {b e : Int32} (hr : rulO (ruC cu mv sp bf)) (hj : ∀ j, j < 10 → fRU j = ruC cu mv sp bf j) (hk : vp_in b 4) : mRank fRU b e = dRank mv bf b e := by
  have k4 := ix_lt hk
  have e9 : fRU 9 = bf := (hj 9 (by decide)).trans ruC_9
  have ek : fRU (4 + ix b) = mv (ix b) := (hj _ (by omega)).trans (ruC_m k4)
  have n9 : bf < 0 ↔ bf = -1 := by have z := rulO_neg hr (j := 9) (by decide); rw [ruC_9] at z; exact z
  have nk : mv (ix b) < 0 ↔ mv (ix b) = -1 := by have z := rulO_neg hr (j := 4 + ix b) (by omega); rw [ruC_m k4] at z; exact z
  unfold mRank dRank
  rw [e9, ek]
  by_cases h1 : bf = -1 ∨ e < bf
  · by_cases h2 : mv (ix b) = -1
    · rw [if_neg (fun q => q.2 (nk.mpr h2)), if_neg (fun q => q.2 h2)]
    · rw [if_pos ⟨h1.imp_left n9.mpr, fun y => h2 (nk.mp y)⟩, if_pos ⟨h1, h2⟩]
  · rw [if_neg (fun q => h1 (q.1.imp_left n9.mp)), if_neg (fun q => h1 q.1)]
theorem tie_less (hr : rulO (ruC cu mv sp bf)) (hj : ∀ j, j < 10 → fRU j = ruC cu mv sp bf j) : ∀ n, (∀ k, k < n → vp_in (rk k) 4) → mLess fRU lf rk dy n = lessS cu sp bf lf rk dy n
  | 0, _ => rfl
  | n + 1, h => by
    simp only [mLess, lessS]
    rw [tie_less hr hj n (fun k hk => h k (by omega)), tie_left hr hj (h n (by omega))]
theorem decOk_of (hr : rulO (ruC cu mv sp bf)) : decOk cu mv sp bf := by
  obtain ⟨h1, h2, h3, h4⟩ := hr
  rw [ruC_8] at h3
  rw [ruC_9] at h4
  refine ⟨fun r hr => ?_, fun r hr => ?_, ?_, ?_⟩
  · rcases h1 r hr with e | ⟨v, hv, e⟩
    · rw [ruC_c hr] at e; rw [e, m1_int]; omega
    · rw [ruC_c hr] at e; rw [e, nI_toInt (by omega)]; omega
  · rcases h2 r hr with e | ⟨v, hv, e⟩
    · rw [ruC_m hr] at e; exact Or.inl e
    · rw [ruC_m hr] at e
      rcases (show v = 0 ∨ v = 1 ∨ v = 2 ∨ v = 3 by omega) with z | z | z | z <;> subst z
      · exact Or.inr (Or.inl e)
      · exact Or.inr (Or.inr (Or.inl e))
      · exact Or.inr (Or.inr (Or.inr (Or.inl e)))
      · exact Or.inr (Or.inr (Or.inr (Or.inr e)))
  · rcases h3 with e | ⟨v, hv, e⟩
    · rw [e, m1_int]; omega
    · rw [e, nI_toInt (by omega)]; omega
  · rcases h4 with e | ⟨v, hv, e⟩
    · rw [e, m1_int]; omega
    · rw [e, nI_toInt (by omega)]; omega
end DTIE
/-! what holds between two calls -/
def puOk (nm : Nat) (fPU : Nat → Int32) (j : Nat) : Prop := (∀ m, m < nm → 0 ≤ (fPU m).toInt) ∧ sI (fun m => (fPU m).toInt) nm ≤ 99999 * nm + 9999 * j
def PInv (np nm : Nat) (fDB fCR fRK fLF fPU : Nat → Int32) (j : Nat) : Prop :=
  np ≤ 40 ∧ nm ≤ 10 ∧ (∀ k, k < np → vp_in (fDB k) nm) ∧ (∀ k, k < np → vp_in (fCR k) nm) ∧ (∀ k, k < np → vp_in (fRK k) 4) ∧ (∀ k, k < np → 0 ≤ (fLF k).toInt ∧ (fLF k).toInt ≤ 999) ∧ (∀ k, k < np → fDB k = fCR k → fLF k = 0) ∧ puOk nm fPU j
def DInv (isd : Int32) (fRU fCU fMV : Nat → Int32) (sp bf : Int32) : Prop := ¬ isd = 0 → (∀ j, j < 10 → fRU j = ruC fCU fMV sp bf j) ∧ rulO (ruC fCU fMV sp bf)
def CInv (cm cpn : Nat) (ic mcr cr : Int32) (fPD fHS fUN fFA fcP fcH fcO fcF : Nat → Int32) : Prop :=
  cm ≤ 10 ∧ cpn ≤ 40 ∧ ((ic = 0 ∧ cm = 0 ∧ cpn = 0 ∧ cr = -1) ∨ (¬ ic = 0 ∧ mcr = cr ∧ (∀ k, k < cpn → fPD k = fcP k) ∧ (∀ m, m < cm → fHS m = fcH m) ∧ (∀ m, m < cm → fUN m = fcO m) ∧ (∀ m, m < cm → fFA m = fcF m)))
section PINV
variable {np nm j : Nat} {fDB fCR fRK fLF fPU : Nat → Int32}
theorem puOk.up (h : puOk nm fPU j) : puOk nm fPU (j + 1) := ⟨h.1, by have := h.2; omega⟩
theorem PInv.up (h : PInv np nm fDB fCR fRK fLF fPU j) : PInv np nm fDB fCR fRK fLF fPU (j + 1) := by
  obtain ⟨h1, h2, h3, h4, h5, h6, h7, h8⟩ := h
  exact ⟨h1, h2, h3, h4, h5, h6, h7, h8.up⟩
theorem PInv.pap (h : PInv np nm fDB fCR fRK fLF fPU j) (hj : j ≤ 512) : papOk np nm fDB fCR fRK fLF fPU := by
  obtain ⟨h1, h2, h3, h4, h5, h6, h7, h8⟩ := h
  refine ⟨h1, h2, h3, h4, h5, h6, fun m hm => ⟨h8.1 m hm, ?_⟩⟩
  have e := sI_term (f := fun m => (fPU m).toInt) h8.1 m hm
  have e2 := h8.2
  have e3 : (fPU m).toInt ≤ sI (fun m => (fPU m).toInt) nm := e
  omega
theorem vp_of {x : Int32} {n : Nat} (hn : n < 2 ^ 31) (h : 0 ≤ x ∧ x < nI n) : vp_in x n := by
  rw [vp_in_iff]
  obtain ⟨h1, h2⟩ := h
  rw [i32_le, ti0] at h1
  rw [i32_lt, nI_toInt hn] at h2
  exact ⟨h1, h2⟩
theorem PInv.man {x : Int32} (h : PInv np nm fDB fCR fRK fLF fPU j) (h0 : 0 ≤ x) (h9 : x ≤ 99999) (hn : nm < 10) : PInv np (nm + 1) fDB fCR fRK fLF (upd fPU nm x) (j + 1) := by
  obtain ⟨h1, h2, h3, h4, h5, h6, h7, h8, h10⟩ := h
  rw [i32_le, ti0] at h0
  rw [i32_le, show (99999 : Int32).toInt = 99999 by decide] at h9
  refine ⟨h1, by omega, fun k hk => vp_wide (h3 k hk) (by omega), fun k hk => vp_wide (h4 k hk) (by omega), h5, h6, h7, fun m hm => ?_, ?_⟩
  · by_cases q : m = nm
    · rw [q, pk_us]; exact h0
    · rw [pk_un q]; exact h8 m (by omega)
  · have e : sI (fun m => (upd fPU nm x m).toInt) nm = sI (fun m => (fPU m).toInt) nm := sI_congr (fun m hm => by rw [pk_un (by omega)])
    show sI (fun m => (upd fPU nm x m).toInt) nm + (upd fPU nm x nm).toInt ≤ _
    rw [e, pk_us]
    omega
theorem PInv.paper {a b x z : Int32} {v : Int32} (h : PInv np nm fDB fCR fRK fLF fPU j) (ha : 0 ≤ a ∧ a < nI nm) (hb : 0 ≤ b ∧ b < nI nm) (hab : ¬ a = b) (hx1 : 1 ≤ x) (hx9 : x ≤ 999) (hz0 : 0 ≤ z) (hz4 : z < 4) (hn : np < 40) (hv : v = 0 ∨ v = x) :
    PInv (np + 1) nm (upd fDB np a) (upd fCR np b) (upd fRK np z) (upd fLF np v) fPU (j + 1) := by
  obtain ⟨h1, h2, h3, h4, h5, h6, h7, h8⟩ := h
  rw [i32_le, show (1 : Int32).toInt = 1 by decide] at hx1
  rw [i32_le, show (999 : Int32).toInt = 999 by decide] at hx9
  refine ⟨by omega, h2, fun k hk => ?_, fun k hk => ?_, fun k hk => ?_, fun k hk => ?_, fun k hk => ?_, h8.up⟩
  · by_cases q : k = np
    · rw [q, pk_us]; exact vp_of (by omega) ha
    · rw [pk_un q]; exact h3 k (by omega)
  · by_cases q : k = np
    · rw [q, pk_us]; exact vp_of (by omega) hb
    · rw [pk_un q]; exact h4 k (by omega)
  · by_cases q : k = np
    · rw [q, pk_us]; exact vp_of (n := 4) (by decide) ⟨hz0, hz4⟩
    · rw [pk_un q]; exact h5 k (by omega)
  · by_cases q : k = np
    · rw [q, pk_us]
      rcases hv with e | e
      · rw [e, ti0]; omega
      · rw [e]; omega
    · rw [pk_un q]; exact h6 k (by omega)
  · by_cases q : k = np
    · rw [q, pk_us, pk_us]; exact fun e => absurd e hab
    · rw [pk_un q, pk_un q, pk_un q]; exact h7 k (by omega)
theorem cnt_sum {v : Nat} {p : Int32} {P : Nat} (hP : p.toInt = P) (hs : ∀ m, m < nm → 0 ≤ (fPU m).toInt ∧ (fPU m).toInt ≤ 100000000) (hb : P ≤ 10000) : ∀ n, n ≤ nm → sI (fun m => (shareS fPU v p m).toInt) n = sI (fun m => (fPU m).toInt) n + P * cntB v n
  | 0, _ => by simp [sI, cntB]
  | n + 1, hn => by
    have ih := cnt_sum (v := v) hP hs hb n (by omega)
    have hb2 := bt_le v n
    have hs2 := hs n (by omega)
    show sI (fun m => (shareS fPU v p m).toInt) n + (shareS fPU v p n).toInt = sI (fun m => (fPU m).toInt) n + (fPU n).toInt + P * (cntB v n + bt v n : Nat)
    rw [ih]
    unfold shareS
    by_cases q : bt v n = 1
    · rw [if_pos q, i32_add (by omega) (by omega), q, hP]
      have e : (P : Int) * ((cntB v n + 1 : Nat) : Int) = P * cntB v n + P := by rw [Int.natCast_add]; simp [Int.mul_add]
      omega
    · have q0 : bt v n = 0 := by omega
      rw [if_neg q, q0, Nat.add_zero]
      omega
theorem PInv.boat {ga x y : Int32} {v : Nat} (h : PInv np nm fDB fCR fRK fLF fPU j) (hj : j ≤ 512) (B : 0 ≤ ga ∧ ga ≤ 9999 ∧ (0 ≤ x ∧ x < nI nm) ∧ 1 ≤ y ∧ y ≤ 9 ∧ v < 2 ^ nm ∧ bt v (ix x) = 0) :
    PInv np nm fDB fCR fRK fLF (upd (fil (shareS fPU v (ga / nI (ix y + cntB v 10))) fPU nm) (ix x) (fil (shareS fPU v (ga / nI (ix y + cntB v 10))) fPU nm (ix x) + (ga - (ga / nI (ix y + cntB v 10)) * nI (cntB v 10)))) (j + 1) := by
  have hpap := h.pap hj
  have hpu := hpap.2.2.2.2.2.2
  obtain ⟨h1, h2, h3, h4, h5, h6, h7, h8, h9⟩ := h
  obtain ⟨b1, b2, b3, b4, b5, b6, b7⟩ := B
  obtain ⟨g, hg, rfl⟩ : ∃ g, g ≤ 9999 ∧ ga = nI g := nI_of2 (M := 9999) (n := 9999) (by decide) (Int32.not_lt.mpr b1) b2
  obtain ⟨cp, hcp, rfl⟩ := vp_in_of (vp_of (by omega) b3) (by omega)
  have ecp : ix (nI cp) = cp := nI_clamp (by omega)
  obtain ⟨pt, hpt, rfl⟩ : ∃ g, g ≤ 9 ∧ y = nI g := nI_of2 (M := 9) (n := 9) (by decide) (fun q => by rw [i32_lt, ti0] at q; rw [i32_le, show (1 : Int32).toInt = 1 by decide] at b4; omega) b5
  have ept : ix (nI pt) = pt := nI_clamp (by omega)
  have hp1 : 1 ≤ pt := by rw [i32_le, show (1 : Int32).toInt = 1 by decide, nI_toInt (by omega)] at b4; omega
  have hc10 := cntB_le v 10
  have hcn : cntB v nm = cntB v 10 := cntB_full b6 h2
  rw [ecp, ept, pk_div (by omega) (by omega) (by omega)]
  have hq : g / (pt + cntB v 10) * cntB v 10 ≤ g := Nat.le_trans (Nat.mul_le_mul_left _ (by omega : cntB v 10 ≤ pt + cntB v 10)) (Nat.div_mul_le_self _ _)
  have hq2 : g / (pt + cntB v 10) ≤ 9999 := Nat.le_trans (Nat.div_le_self _ _) hg
  rw [pk_mul, pk_sub hq]
  generalize hP : g / (pt + cntB v 10) = P at hq hq2 ⊢
  have eP : (nI P).toInt = P := nI_toInt (by omega)
  have hsum := cnt_sum (v := v) (fPU := fPU) (nm := nm) eP hpu (by omega) nm (Nat.le_refl _)
  rw [hcn] at hsum
  have hfil : ∀ m, m < nm → fil (shareS fPU v (nI P)) fPU nm m = shareS fPU v (nI P) m := fun m hm => by unfold fil; rw [if_pos hm]
  have hsh : ∀ m, m < nm → 0 ≤ (shareS fPU v (nI P) m).toInt ∧ (shareS fPU v (nI P) m).toInt ≤ 100009999 := fun m hm => by
    have z := hpu m hm
    unfold shareS
    by_cases q : bt v m = 1
    · rw [if_pos q, i32_add (by omega) (by omega), eP]; omega
    · rw [if_neg q]; omega
  have er : (nI (g - P * cntB v 10)).toInt = (g - P * cntB v 10 : Nat) := nI_toInt (by omega)
  have zc := hsh cp hcp
  have ea : (shareS fPU v (nI P) cp + nI (g - P * cntB v 10)).toInt = (shareS fPU v (nI P) cp).toInt + (g - P * cntB v 10 : Nat) := by rw [i32_add (by omega) (by omega), er]
  refine ⟨h1, h2, h3, h4, h5, h6, h7, fun m hm => ?_, ?_⟩
  · by_cases q : m = cp
    · rw [q, pk_us, hfil cp hcp, ea]; omega
    · rw [pk_un q, hfil m hm]; exact (hsh m hm).1
  · rw [sI_upd (fun x => x.toInt) (fil (shareS fPU v (nI P)) fPU nm) cp _ nm hcp, sI_congr (g := fun m => (shareS fPU v (nI P) m).toInt) (fun m hm => by rw [hfil m hm]), hsum, hfil cp hcp, ea]
    have e5 : (P : Int) * (cntB v 10 : Int) = ((P * cntB v 10 : Nat) : Int) := by rw [Int.natCast_mul]
    rw [e5]
    omega
theorem PInv.heir {x y : Int32} (h : PInv np nm fDB fCR fRK fLF fPU j) (hj : j ≤ 512) (hx : 0 ≤ x ∧ x < nI nm) (hy : 0 ≤ y ∧ y < nI nm) (hxy : ¬ x = y) :
    PInv np nm (fil (rep x y fDB) fDB np) (fil (rep x y fCR) fCR np) fRK (fil (repL x y fDB fCR fLF) fLF np) (upd (upd fPU (ix y) (fPU (ix y) + fPU (ix x))) (ix x) 0) (j + 1) := by
  have hpu := (h.pap hj).2.2.2.2.2.2
  obtain ⟨h1, h2, h3, h4, h5, h6, h7, h8, h9⟩ := h
  have vy := vp_of (by omega) hy
  obtain ⟨a, ha, rfl⟩ := vp_in_of (vp_of (by omega) hx) (by omega)
  obtain ⟨b, hb, rfl⟩ := vp_in_of (vp_of (by omega) hy) (by omega)
  have ea : ix (nI a) = a := nI_clamp (by omega)
  have eb : ix (nI b) = b := nI_clamp (by omega)
  have hab : a ≠ b := fun e => hxy (by rw [e])
  rw [ea, eb]
  have za := hpu a ha
  have zb := hpu b hb
  have es : (fPU b + fPU a).toInt = (fPU b).toInt + (fPU a).toInt := i32_add (by omega) (by omega)
  refine ⟨h1, h2, fun k hk => ?_, fun k hk => ?_, h5, fun k hk => ?_, fun k hk => ?_, fun m hm => ?_, ?_⟩
  · unfold fil rep
    rw [if_pos hk]
    by_cases q : fDB k = nI a
    · rw [if_pos q]; exact vy
    · rw [if_neg q]; exact h3 k hk
  · unfold fil rep
    rw [if_pos hk]
    by_cases q : fCR k = nI a
    · rw [if_pos q]; exact vy
    · rw [if_neg q]; exact h4 k hk
  · unfold fil repL
    rw [if_pos hk]
    by_cases q : rep (nI a) (nI b) fDB k = rep (nI a) (nI b) fCR k
    · rw [if_pos q, ti0]; omega
    · rw [if_neg q]; exact h6 k hk
  · unfold fil repL
    rw [if_pos hk, if_pos hk, if_pos hk]
    intro q
    rw [if_pos q]
  · by_cases q : m = a
    · rw [q, pk_us, ti0]; omega
    · rw [pk_un q]
      by_cases q2 : m = b
      · rw [q2, pk_us, es]; omega
      · rw [pk_un q2]; exact h8 m hm
  · rw [sI_upd (fun x => x.toInt) (upd fPU b (fPU b + fPU a)) a 0 nm ha, sI_upd (fun x => x.toInt) fPU b (fPU b + fPU a) nm hb, pk_un hab, es, ti0]
    omega
theorem PInv.enact {cu mv fDY : Nat → Int32} {sp bf : Int32} (h : PInv np nm fDB fCR fRK fLF fPU j) (D : decOk cu mv sp bf) : PInv np nm fDB fCR (fil (rkF mv bf fRK fDY) fRK np) (fil (dueF cu sp bf fLF fRK fDY) fLF np) fPU (j + 1) := by
  obtain ⟨h1, h2, h3, h4, h5, h6, h7, h8⟩ := h
  have hb : ∀ k, k < np → 0 ≤ (dLeft cu sp bf (fLF k) (fRK k) (fDY k)).toInt ∧ (dLeft cu sp bf (fLF k) (fRK k) (fDY k)).toInt ≤ (fLF k).toInt := fun k hk => dLeft_bound (D.1 _ (ix_lt (h5 k hk))) D.2.2.1.1 (h6 k hk)
  refine ⟨h1, h2, h3, h4, fun k hk => ?_, fun k hk => ?_, fun k hk => ?_, h8.up⟩
  · unfold fil
    rw [if_pos hk]
    show vp_in (dRank mv bf (fRK k) (fDY k)) 4
    rcases dRank_ok (bf := bf) (dy := fDY k) D.2.1 (h5 k hk) with e | e | e | e <;> rw [e] <;> exact vp_in_nI (by decide) (by decide)
  · unfold fil
    rw [if_pos hk]
    have z := hb k hk
    have z2 := h6 k hk
    show 0 ≤ (dLeft cu sp bf (fLF k) (fRK k) (fDY k)).toInt ∧ (dLeft cu sp bf (fLF k) (fRK k) (fDY k)).toInt ≤ 999
    omega
  · intro q
    unfold fil
    rw [if_pos hk]
    have z := hb k hk
    have z2 := h7 k hk q
    rw [z2, ti0] at z
    show dLeft cu sp bf (fLF k) (fRK k) (fDY k) = 0
    rw [z2]
    exact i32_ext (by rw [ti0]; omega)
theorem PInv.fin {PD HS UN FA : Nat → Int32} {R : Nat} (h : PInv np nm fDB fCR fRK fLF fPU j) (hj : j ≤ 512) (hr : ClearRes np nm fDB fCR fPU fLF fRK PD HS UN FA R) : PInv np nm fDB fCR fRK (fil (fun j => fLF j - PD j) fLF np) (fil HS fPU nm) (j + 1) := by
  have P := h.pap hj
  obtain ⟨h1, h2, h3, h4, h5, h6, h7, h8⟩ := h
  have hp := ClearRes_pd (plain_ok P) h6 hr
  obtain ⟨s1, s2⟩ := ClearRes_sum P (plain_ok P) h6 hr
  refine ⟨h1, h2, h3, h4, h5, fun k hk => ?_, fun k hk => ?_, fun m hm => ?_, ?_⟩
  · unfold fil
    rw [if_pos hk]
    have z := hp k hk
    have z2 := h6 k hk
    show 0 ≤ (fLF k - PD k).toInt ∧ (fLF k - PD k).toInt ≤ 999
    rw [i32_sub (by omega) (by omega)]
    omega
  · intro q
    unfold fil
    rw [if_pos hk]
    have z := hp k hk
    have z2 := h7 k hk q
    rw [z2, ti0] at z
    show fLF k - PD k = 0
    exact i32_ext (by rw [z2, i32_sub (by rw [ti0]; omega) (by rw [ti0]; omega), ti0]; omega)
  · unfold fil
    rw [if_pos hm]
    exact s1 m hm
  · have e : sI (fun m => (fil HS fPU nm m).toInt) nm = sI (fun m => (HS m).toInt) nm := sI_congr (fun m hm => by unfold fil; rw [if_pos hm])
    rw [e, s2]
    have := h8.2
    omega
end PINV
