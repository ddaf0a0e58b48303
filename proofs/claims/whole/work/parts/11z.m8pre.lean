/-! the book's own methods -/
theorem man_of {r x : Int32} {n : Nat} (hn : n ≤ 10) (h : r = if 0 ≤ x ∧ x < nI n then 1 else 0) (h2 : ¬ r = 0) : ∃ j, j < n ∧ x = nI j := by
  by_cases q : 0 ≤ x ∧ x < nI n
  · exact vp_in_of (vp_in_range (fun z => by have := q.1; rw [i32_le] at this; rw [i32_lt] at z; omega) q.2 (Nat.le_refl n) (by omega)) (by omega)
  · rw [if_neg q] at h; exact absurd h h2
theorem man_not {r x : Int32} {n : Nat} (h : r = if 0 ≤ x ∧ x < nI n then 1 else 0) (h2 : r = 0) : ¬ (0 ≤ x ∧ x < nI n) := by
  intro q
  rw [if_pos q] at h
  rw [h2] at h
  exact absurd h (by decide)
theorem man_in {r x : Int32} {n : Nat} (h : r = if 0 ≤ x ∧ x < nI n then 1 else 0) (h2 : ¬ r = 0) : 0 ≤ x ∧ x < nI n := by
  by_cases q : 0 ≤ x ∧ x < nI n
  · exact q
  · rw [if_neg q] at h; exact absurd h h2
theorem man_vp {r x : Int32} {n : Nat} (hn : n ≤ 10) (h : r = if 0 ≤ x ∧ x < nI n then 1 else 0) (h2 : ¬ r = 0) : vp_in x 10 := by
  obtain ⟨j, hj, rfl⟩ := man_of hn h h2
  exact vp_in_nI (by omega) (by decide)
theorem rng_of {x : Int32} {a b : Nat} (hb : b < 2 ^ 31) (h1 : ¬ x < nI a) (h2 : x ≤ nI b) (ha : a < 2 ^ 31) : ∃ j, a ≤ j ∧ j ≤ b ∧ x = nI j := by
  rw [i32_lt, nI_toInt ha] at h1
  rw [i32_le, nI_toInt hb] at h2
  refine ⟨x.toInt.toNat, by omega, by omega, ?_⟩
  apply Int32.toInt_inj.mp
  rw [nI_toInt (by omega)]; omega
def coinsL (L : List (Nat × Nat × Int32)) : Nat → Int32
  | 0 => 0
  | n + 1 => coinsL L n + (match L[n]? with | some q => q.2.2 | none => 0)
theorem coins_sum {PY GT CO : Nat → Int32} {L : List (Nat × Nat × Int32)} (h : holdsL PY GT CO L) : ∀ n, n ≤ L.length → sumS CO n = coinsL L n
  | 0, _ => rfl
  | n + 1, hn => by
    have e : L[n]? = some L[n] := List.getElem?_eq_getElem (by omega)
    simp only [sumS, coinsL, coins_sum h n (by omega), e, (h n _ e).2.2]
def mvAns (L : List (Nat × Nat × Int32)) (k x : Int32) : Int32 :=
  if 0 ≤ k ∧ k < nI L.length then (match L[ix k]? with | some q => (if x = 0 then nI q.1 else if x = 1 then nI q.2.1 else if x = 2 then q.2.2 else -1) | none => -1) else -1
theorem tell_mv {PY GT CO : Nat → Int32} {L : List (Nat × Nat × Int32)} {n : Nat} (h : holdsL PY GT CO L) (hn : n = L.length) (hl : n ≤ 10) (k x : Int32) : tellB PY GT CO n k x = mvAns L k x := by
  subst hn
  unfold tellB mvAns
  by_cases q : 0 ≤ k ∧ k < nI L.length
  · rw [if_pos q, if_pos q]
    have hv := vp_in_range (k := k) (fun z => by have := q.1; rw [i32_le] at this; rw [i32_lt] at z; omega) q.2 (Nat.le_refl _) (by omega)
    have e : L[ix k]? = some (L[ix k]'(ix_lt hv)) := List.getElem?_eq_getElem (ix_lt hv)
    obtain ⟨h1, h2, h3⟩ := h _ _ e
    rw [e, h1, h2, h3]
  · rw [if_neg q, if_neg q]
/-- what a decree may hold -/
def decOk (cu mv : Nat → Int32) (sp bf : Int32) : Prop := (∀ r, r < 4 → -1 ≤ (cu r).toInt ∧ (cu r).toInt ≤ 100) ∧ (∀ r, r < 4 → mv r = -1 ∨ mv r = nI 0 ∨ mv r = nI 1 ∨ mv r = nI 2 ∨ mv r = nI 3) ∧ (-1 ≤ sp.toInt ∧ sp.toInt ≤ 999) ∧ (-1 ≤ bf.toInt ∧ bf.toInt ≤ 999)
/-- what the papers and purses may hold -/
def papOk (np nm : Nat) (fDB fCR fRK fLF fPU : Nat → Int32) : Prop := np ≤ 40 ∧ nm ≤ 10 ∧ (∀ k, k < np → vp_in (fDB k) nm) ∧ (∀ k, k < np → vp_in (fCR k) nm) ∧ (∀ k, k < np → vp_in (fRK k) 4) ∧ (∀ k, k < np → 0 ≤ (fLF k).toInt ∧ (fLF k).toInt ≤ 999) ∧ (∀ m, m < nm → 0 ≤ (fPU m).toInt ∧ (fPU m).toInt ≤ 100000000)
theorem m1_int : (-1 : Int32).toInt = -1 := by decide
theorem dLeft_bound {cu : Nat → Int32} {sp bf lf rk dy : Int32} (hc : -1 ≤ (cu (ix rk)).toInt ∧ (cu (ix rk)).toInt ≤ 100) (hs : -1 ≤ sp.toInt) (hl : 0 ≤ lf.toInt ∧ lf.toInt ≤ 999) : 0 ≤ (dLeft cu sp bf lf rk dy).toInt ∧ (dLeft cu sp bf lf rk dy).toInt ≤ lf.toInt := by
  unfold dLeft
  have hab0 : (if sp = -1 then lf else lf - sp).toInt ≤ lf.toInt := by
    by_cases h3 : sp = -1
    · rw [if_pos h3]; exact Int.le_refl _
    · rw [if_neg h3]
      have : sp.toInt ≠ -1 := fun e => h3 (Int32.toInt_inj.mp (e.trans m1_int.symm))
      have hs2 := Int32.toInt_lt sp
      have hs3 := Int32.le_toInt sp
      rw [i32_sub (by omega) (by omega)]; omega
  generalize (if sp = -1 then lf else lf - sp) = ab at hab0 ⊢
  by_cases h : ((bf = -1 ∨ dy < bf) ∧ ¬ cu (ix rk) = -1) ∧ 0 < ab
  · rw [if_pos h]
    obtain ⟨⟨-, h1⟩, h2⟩ := h
    have hab2 := hab0
    have hc0 : 0 ≤ (cu (ix rk)).toInt := by
      have : (cu (ix rk)).toInt ≠ -1 := fun e => h1 (Int32.toInt_inj.mp (e.trans m1_int.symm))
      omega
    rw [i32_lt, ti0] at h2
    generalize hcu : cu (ix rk) = cv at hc hc0 ⊢
    obtain ⟨x, hx, rfl⟩ := nI_of (x := ab) (fun z => by rw [i32_lt, ti0] at z; omega)
    obtain ⟨y, hy, rfl⟩ := nI_of (x := cv) (fun z => by rw [i32_lt, ti0] at z; omega)
    rw [nI_toInt hx] at hab2 h2
    rw [nI_toInt hy] at hc
    have hm2 : x * y ≤ x * 100 := Nat.mul_le_mul_left x (by omega)
    have hd : nI x * nI y / 100 = nI (x * y / 100) := by rw [pk_mul]; exact pk_div (by omega) (by decide) (by decide)
    have hq : x * y / 100 ≤ x := by omega
    rw [hd]
    have ht : (nI (x * y / 100)).toInt = ((x * y / 100 : Nat) : Int) := nI_toInt (by omega)
    rw [i32_sub (by omega) (by omega)]; omega
  · rw [if_neg h]; omega
theorem dRank_ok {mv : Nat → Int32} {bf rk dy : Int32} (hm : ∀ r, r < 4 → mv r = -1 ∨ mv r = nI 0 ∨ mv r = nI 1 ∨ mv r = nI 2 ∨ mv r = nI 3) (hr : vp_in rk 4) : dRank mv bf rk dy = nI 0 ∨ dRank mv bf rk dy = nI 1 ∨ dRank mv bf rk dy = nI 2 ∨ dRank mv bf rk dy = nI 3 := by
  unfold dRank
  split
  · rename_i h
    rcases hm (ix rk) (ix_lt hr) with q | q
    · exact absurd q h.2
    · exact q
  · obtain ⟨j, hj, rfl⟩ := vp_in_of hr (by decide)
    match j, hj with
    | 0, _ => exact Or.inl rfl
    | 1, _ => exact Or.inr (Or.inl rfl)
    | 2, _ => exact Or.inr (Or.inr (Or.inl rfl))
    | 3, _ => exact Or.inr (Or.inr (Or.inr rfl))
    | j + 4, hj => omega
section BK
variable {np nm : Nat} {fDB fCR fRK fLF fPU fDY cu mv : Nat → Int32} {sp bf : Int32}
theorem due_ok (P : papOk np nm fDB fCR fRK fLF fPU) (D : decOk cu mv sp bf) : ∀ k, k < np → 0 ≤ (dueF cu sp bf fLF fRK fDY k).toInt ∧ (dueF cu sp bf fLF fRK fDY k).toInt ≤ 999 := by
  intro k hk
  obtain ⟨h1, h2, h3, h4, h5, h6, h7⟩ := P
  have hb := dLeft_bound (bf := bf) (dy := fDY k) (D.1 _ (ix_lt (h5 k hk))) D.2.2.1.1 (h6 k hk)
  have := h6 k hk
  constructor
  · exact hb.1
  · exact Int.le_trans hb.2 this.2
theorem rk_ok (P : papOk np nm fDB fCR fRK fLF fPU) (D : decOk cu mv sp bf) : rkOk (rkF mv bf fRK fDY) np := fun k hk => dRank_ok D.2.1 (P.2.2.2.2.1 k hk)
theorem clc_ok (P : papOk np nm fDB fCR fRK fLF fPU) (D : decOk cu mv sp bf) : CLc np nm fDB fCR (odF (rkF mv bf fRK fDY) np) (owF cu sp bf fLF fRK fDY np) (fun m => (fPU m).toInt) := by
  have hro := rk_ok (fDY := fDY) P D
  have hdu := due_ok (fDY := fDY) P D
  obtain ⟨h1, h2, h3, h4, h5, h6, h7⟩ := P
  refine ⟨h1, h2, h3, h4, fun i hi => odF_lt hro hi, odF_inj hro, fun k => ?_, h7⟩
  unfold owF
  split
  · rename_i h; exact hdu k h
  · omega
end BK
/-- what a clearing comes to: du what is due, rk the ranks -/
def ClearRes (np nm : Nat) (fDB fCR fPU du rk PD HS UN FA : Nat → Int32) (R : Nat) : Prop :=
  let ow : Nat → Int := fun k => if k < np then (du k).toInt else 0
  let T := TRF fDB fCR ow (odF rk np) np (fun m => (fPU m).toInt)
  isR nm T R ∧ R ≤ 39960 ∧ (∀ i, i < np → (PD (odF rk np i)).toInt = fillP (dbN fDB) ow (odF rk np) (dbN fDB (odF rk np i)) (T R (dbN fDB (odF rk np i))) i) ∧ (∀ m, m < nm → (HS m).toInt = (fPU m).toInt + rcF fDB fCR ow (odF rk np) np (T R) m - T R m) ∧ (∀ m, m < nm → (UN m).toInt = prF fDB ow (odF rk np) m np - T R m) ∧ (∀ m, m < nm → FA m = failR T m R)
theorem clearRes_of {np nm : Nat} {fDB fCR fPU fLF fRK fDY cu mv : Nat → Int32} {sp bf : Int32} {PD HS UN FA LO LA : Nat → Int32} {R : Nat}
    (h : isR nm (TRF fDB fCR (owF cu sp bf fLF fRK fDY np) (odF (rkF mv bf fRK fDY) np) np (fun m => (fPU m).toInt)) R ∧ R ≤ 39960 ∧ ClrSt np nm fDB fCR (odF (rkF mv bf fRK fDY) np) (owF cu sp bf fLF fRK fDY np) (fun m => (fPU m).toInt) (TRF fDB fCR (owF cu sp bf fLF fRK fDY np) (odF (rkF mv bf fRK fDY) np) np (fun m => (fPU m).toInt) R) (fun m => failR (TRF fDB fCR (owF cu sp bf fLF fRK fDY np) (odF (rkF mv bf fRK fDY) np) np (fun m => (fPU m).toInt)) m R) PD HS UN FA LO LA) :
    ClearRes np nm fDB fCR fPU (dueF cu sp bf fLF fRK fDY) (rkF mv bf fRK fDY) PD HS UN FA R := by
  obtain ⟨h1, h2, h3, h4, h5, h6, -, -⟩ := h
  exact ⟨h1, h2, h3, h4, h5, h6⟩
theorem rowO_congr {rk rk' : Nat → Int32} (r : Nat) : ∀ {n : Nat}, (∀ k, k < n → rk k = rk' k) → rowO rk r n = rowO rk' r n
  | 0, _ => rfl
  | n + 1, h => by simp only [rowO]; rw [rowO_congr r (fun k hk => h k (by omega)), h n (by omega)]
theorem ordO_congr {rk rk' : Nat → Int32} {n : Nat} (h : ∀ k, k < n → rk k = rk' k) : ∀ r, ordO rk n r = ordO rk' n r
  | 0 => rfl
  | r + 1 => by simp only [ordO]; rw [ordO_congr h r, rowO_congr r h]
theorem ClearRes_congr {np nm : Nat} {fDB fCR fPU du rk du' rk' PD HS UN FA : Nat → Int32} {R : Nat} (h1 : ∀ k, k < np → du k = du' k) (h2 : ∀ k, k < np → rk k = rk' k) (h : ClearRes np nm fDB fCR fPU du rk PD HS UN FA R) : ClearRes np nm fDB fCR fPU du' rk' PD HS UN FA R := by
  have e1 : (fun k => if k < np then (du k).toInt else 0) = (fun k => if k < np then (du' k).toInt else 0) := by
    funext k
    by_cases q : k < np
    · rw [if_pos q, if_pos q, h1 k q]
    · rw [if_neg q, if_neg q]
  have e2 : odF rk np = odF rk' np := by unfold odF; rw [ordO_congr h2]
  unfold ClearRes at h ⊢
  rw [e1, e2] at h
  exact h
theorem due_plain {cu : Nat → Int32} {bf lf rk dy : Int32} (h : cu (ix rk) = -1) : dLeft cu (-1) bf lf rk dy = lf := by
  unfold dLeft
  rw [if_neg (fun q => q.1.2 h)]
theorem rank_plain {mv : Nat → Int32} {bf rk dy : Int32} (h : mv (ix rk) = -1) : dRank mv bf rk dy = rk := by
  unfold dRank
  rw [if_neg (fun q => q.2 h)]
theorem dec_plain {cu mv : Nat → Int32} (h1 : ∀ r, r < 4 → cu r = -1) (h2 : ∀ r, r < 4 → mv r = -1) : decOk cu mv (-1) (-1) :=
  ⟨fun r hr => by rw [h1 r hr, m1_int]; omega, fun r hr => Or.inl (h2 r hr), by rw [m1_int]; omega, by rw [m1_int]; omega⟩
abbrev put20 (f : Nat → Int32) (t : Nat) (a b c d e : Int32) : Nat → Int32 := put4 (put4 (put4 (put4 (put4 f t a) (t + 4) b) (t + 8) c) (t + 12) d) (t + 16) e
def countS (np nm : Nat) (td cr : Int32) (fLF fPU : Nat → Int32) (isd ln x : Int32) : Int32 :=
  if x = 0 then nI nm else if x = 1 then nI np else if x = 2 then td else if x = 3 then sumS fLF np else if x = 4 then sumS fPU nm else if x = 5 then cr else if x = 6 then (if isd = 0 then -1 else ln) else -1
theorem i32_nat (x : Int32) : ∃ v, v < 2 ^ 32 ∧ x = nI v := ⟨x.toBitVec.toNat, x.toBitVec.isLt, Int32.toBitVec_inj.mp (by show _ = BitVec.ofNat 32 _; simp)⟩
theorem sw_look {x : Int32} {a b d : Int} (h0 : ¬ x = 0) (h1 : ¬ x = 1) : Op.lookupswitch.offset [(0, a), (1, b)] d x.toInt = d := by
  have t0 := sw_ne (z := 0) (by decide) h0
  have t1 := sw_ne (z := 1) (by decide) h1
  simp only [Op.lookupswitch.offset]
  rw [if_neg (fun e => t0 e.symm), if_neg (fun e => t1 e.symm)]
