/-! the reference's clear and end -/
def hasM (pd : Nat → Int32) (db cr : Nat → Nat) (h : Nat → Int32) : Nat → Nat → Int32
  | 0 => h
  | n + 1 => upd (upd (hasM pd db cr h n) (cr n) (hasM pd db cr h n (cr n) + pd n)) (db n) (upd (hasM pd db cr h n) (cr n) (hasM pd db cr h n (cr n) + pd n) (db n) - pd n)
def oweM (ow pd : Nat → Int32) (db : Nat → Nat) (h : Nat → Int32) : Nat → Nat → Int32
  | 0 => h
  | n + 1 => upd (oweM ow pd db h n) (db n) (oweM ow pd db h n (db n) + (ow n - pd n))
theorem hasM_out {pd : Nat → Int32} {db cr : Nat → Nat} {h : Nat → Int32} {nm np : Nat} (hdb : ∀ k, k < np → db k < nm) (hcr : ∀ k, k < np → cr k < nm) : ∀ n, n ≤ np → ∀ m, nm ≤ m → hasM pd db cr h n m = h m
  | 0, _, _, _ => rfl
  | n + 1, hn, m, hm => by
    have h1 := hdb n (by omega)
    have h2 := hcr n (by omega)
    simp only [hasM]
    rw [pk_un (by omega), pk_un (by omega), hasM_out hdb hcr n (by omega) m hm]
theorem hasM_val {pd : Nat → Int32} {db cr : Nat → Nat} {h : Nat → Int32} {np nm : Nat} (hnp : np ≤ 40) (hpd : ∀ k, k < np → 0 ≤ (pd k).toInt ∧ (pd k).toInt ≤ 999) (hh : ∀ m, m < nm → 0 ≤ (h m).toInt ∧ (h m).toInt ≤ 100000000) :
    ∀ n, n ≤ np → ∀ m, m < nm → (hasM pd db cr h n m).toInt = (h m).toInt + pS (fun k => (pd k).toInt) cr m n - pS (fun k => (pd k).toInt) db m n := by
  intro n
  induction n with
  | zero => intro _ m hm; simp [hasM, pS, sI]
  | succ n ih =>
    intro hn m hm
    have b1 := pS_bound hpd (a := db) m (show n ≤ np by omega)
    have b2 := pS_bound hpd (a := cr) m (show n ≤ np by omega)
    have b3 := hh m hm
    have b4 := hpd n (by omega)
    have i1 := ih (by omega) m hm
    have e1 : pS (fun k => (pd k).toInt) db m (n + 1) = pS (fun k => (pd k).toInt) db m n + (if db n = m then (pd n).toInt else 0) := rfl
    have e2 : pS (fun k => (pd k).toInt) cr m (n + 1) = pS (fun k => (pd k).toInt) cr m n + (if cr n = m then (pd n).toInt else 0) := rfl
    rw [e1, e2]
    have key : (upd (hasM pd db cr h n) (cr n) (hasM pd db cr h n (cr n) + pd n) m).toInt = (hasM pd db cr h n m).toInt + (if cr n = m then (pd n).toInt else 0) := by
      by_cases z : m = cr n
      · subst z
        rw [pk_us, if_pos rfl, i32_add (by omega) (by omega)]
      · rw [pk_un z, if_neg (fun y => z y.symm)]; omega
    show (upd (upd (hasM pd db cr h n) (cr n) (hasM pd db cr h n (cr n) + pd n)) (db n) (upd (hasM pd db cr h n) (cr n) (hasM pd db cr h n (cr n) + pd n) (db n) - pd n) m).toInt = _
    by_cases z : m = db n
    · subst z
      have b5 : (if cr n = db n then (pd n).toInt else 0) ≤ 999 ∧ 0 ≤ (if cr n = db n then (pd n).toInt else 0) := by split <;> omega
      have e4 : (if db n = db n then (pd n).toInt else 0) = (pd n).toInt := if_pos rfl
      rw [pk_us, e4, i32_sub (by omega) (by omega), key]
      omega
    · have e3 : (if db n = m then (pd n).toInt else 0) = 0 := if_neg (fun y => z y.symm)
      rw [pk_un z, key, e3]
      omega
theorem oweM_val {ow pd : Nat → Int32} {db : Nat → Nat} {h : Nat → Int32} {np nm : Nat} (hnp : np ≤ 40) (hpd : ∀ k, k < np → 0 ≤ (pd k).toInt ∧ (pd k).toInt ≤ (ow k).toInt ∧ (ow k).toInt ≤ 999) (hh : ∀ m, m < nm → (h m).toInt = 0) :
    ∀ n, n ≤ np → ∀ m, m < nm → (oweM ow pd db h n m).toInt = pS (fun k => (ow k).toInt) db m n - pS (fun k => (pd k).toInt) db m n := by
  intro n
  induction n with
  | zero => intro _ m hm; simp [oweM, pS, sI, hh m hm]
  | succ n ih =>
    intro hn m hm
    have b1 := pS_bound (du := fun k => (pd k).toInt) (np := np) (fun k hk => by have := hpd k hk; constructor <;> omega) (a := db) m (show n ≤ np by omega)
    have b2 := pS_bound (du := fun k => (ow k).toInt) (np := np) (fun k hk => by have := hpd k hk; constructor <;> omega) (a := db) m (show n ≤ np by omega)
    have b4 := hpd n (by omega)
    have i1 := ih (by omega) m hm
    have e1 : pS (fun k => (pd k).toInt) db m (n + 1) = pS (fun k => (pd k).toInt) db m n + (if db n = m then (pd n).toInt else 0) := rfl
    have e2 : pS (fun k => (ow k).toInt) db m (n + 1) = pS (fun k => (ow k).toInt) db m n + (if db n = m then (ow n).toInt else 0) := rfl
    rw [e1, e2]
    have es : (ow n - pd n).toInt = (ow n).toInt - (pd n).toInt := i32_sub (by omega) (by omega)
    show (upd (oweM ow pd db h n) (db n) (oweM ow pd db h n (db n) + (ow n - pd n)) m).toInt = _
    by_cases z : m = db n
    · subst z
      rw [pk_us, if_pos rfl, if_pos rfl, i32_add (by omega) (by omega)]
      omega
    · rw [pk_un z, if_neg (fun y => z y.symm), if_neg (fun y => z y.symm)]
      omega
section MC
variable {np nm : Nat} {fDB fCR fPU OW RS PD FA : Nat → Int32} {R : Nat}
theorem MSt_pd (C : CLc np nm fDB fCR (odF RS np) (owG OW np) (fun m => (fPU m).toInt)) (hro : rkOk RS np) {T : Nat → Int} {fr : Nat → Int32} (h : MSt np nm fDB (odF RS np) (owG OW np) T fr PD FA) : ∀ k, k < np → 0 ≤ (PD k).toInt ∧ (PD k).toInt ≤ (OW k).toInt ∧ (OW k).toInt ≤ 999 := by
  intro k hk
  obtain ⟨h1, h2, h3, h4, h5, h6, h7, h8⟩ := id C
  have hsur : ∃ i, i < np ∧ odF RS np i = k := by
    by_cases z : ∃ i, i < np ∧ odF RS np i = k
    · exact z
    · exfalso
      have e := sI_places hro (fun j => if k = j then (1 : Int) else 0)
      rw [sI_one, if_pos hk] at e
      have e2 : sI (fun i => if k = odF RS np i then (1 : Int) else 0) np = sI (fun _ => 0) np := sI_congr (fun i hi => if_neg (fun y => z ⟨i, hi, y.symm⟩))
      have e3 : ∀ n, sI (fun _ => (0 : Int)) n = 0 := by
        intro n
        induction n with
        | zero => rfl
        | succ n ih => simp only [sI]; rw [ih]; rfl
      rw [e2, e3] at e
      exact absurd e (by decide)
  obtain ⟨i, hi, rfl⟩ := hsur
  have how : owG OW np (odF RS np i) = (OW (odF RS np i)).toInt := by unfold owG; rw [if_pos hk]
  have b1 := fillP_nonneg (db := dbN fDB) (od := odF RS np) (fun k => (h7 k).1) (dbN fDB (odF RS np i)) (T (dbN fDB (odF RS np i))) i
  have b2 := fillP_le (db := dbN fDB) (od := odF RS np) (fun k => (h7 k).1) (dbN fDB (odF RS np i)) (T (dbN fDB (odF RS np i))) i
  have b3 := h7 (odF RS np i)
  rw [h.1 i hi]
  rw [how] at b2 b3
  omega
theorem MSt_recv (C : CLc np nm fDB fCR (odF RS np) (owG OW np) (fun m => (fPU m).toInt)) (hro : rkOk RS np) {T : Nat → Int} {fr : Nat → Int32} (h : MSt np nm fDB (odF RS np) (owG OW np) T fr PD FA) (m : Nat) : pS (fun k => (PD k).toInt) (dbN fCR) m np = rcF fDB fCR (owG OW np) (odF RS np) np T m := by
  unfold pS
  rw [← sI_places hro (fun k => if dbN fCR k = m then (PD k).toInt else 0)]
  exact sI_congr (fun i hi => by rw [h.1 i hi])
theorem MSt_paid (C : CLc np nm fDB fCR (odF RS np) (owG OW np) (fun m => (fPU m).toInt)) (hro : rkOk RS np) {T : Nat → Int} {fr : Nat → Int32} (h : MSt np nm fDB (odF RS np) (owG OW np) T fr PD FA) {m : Nat} (hT : 0 ≤ T m ∧ T m ≤ prF fDB (owG OW np) (odF RS np) m np) : pS (fun k => (PD k).toInt) (dbN fDB) m np = T m := by
  unfold pS
  rw [← sI_places hro (fun k => if dbN fDB k = m then (PD k).toInt else 0)]
  have e := fillP_sum (db := dbN fDB) (ow := owG OW np) (od := odF RS np) m (T m) np
  have e2 : sI (fun i => if dbN fDB (odF RS np i) = m then (PD (odF RS np i)).toInt else 0) np = sI (fillP (dbN fDB) (owG OW np) (odF RS np) m (T m)) np := sI_congr (fun i hi => by
    by_cases q : dbN fDB (odF RS np i) = m
    · rw [if_pos q, h.1 i hi, q]
    · rw [if_neg q, fillP_not q])
  rw [e2, e]
  have : prF fDB (owG OW np) (odF RS np) m np = preS (dbN fDB) (owG OW np) (odF RS np) m np := rfl
  omega
theorem owe_tot (hro : rkOk RS np) (m : Nat) : pS (fun k => (OW k).toInt) (dbN fDB) m np = prF fDB (owG OW np) (odF RS np) m np := by
  unfold prF preS
  rw [sI_places hro (fun k => if dbN fDB k = m then owG OW np k else 0)]
  exact sI_congr (fun k hk => by unfold owG; rw [if_pos hk])
/-- the reference's numbers are the clearing's -/
theorem clearRes_M (C : CLc np nm fDB fCR (odF RS np) (owG OW np) (fun m => (fPU m).toInt)) (hro : rkOk RS np) (hR : isR nm (TRF fDB fCR (owG OW np) (odF RS np) np (fun m => (fPU m).toInt)) R) (hR2 : R ≤ 39960)
    (h : MSt np nm fDB (odF RS np) (owG OW np) (TRF fDB fCR (owG OW np) (odF RS np) np (fun m => (fPU m).toInt) R) (fun m => failR (TRF fDB fCR (owG OW np) (odF RS np) np (fun m => (fPU m).toInt)) m R) PD FA)
    {HS UN : Nat → Int32} (hHS : ∀ m, m < nm → (HS m).toInt = (fPU m).toInt + pS (fun k => (PD k).toInt) (dbN fCR) m np - pS (fun k => (PD k).toInt) (dbN fDB) m np) (hUN : ∀ m, m < nm → (UN m).toInt = pS (fun k => (OW k).toInt) (dbN fDB) m np - pS (fun k => (PD k).toInt) (dbN fDB) m np) :
    ClearRes np nm fDB fCR fPU OW RS PD HS UN FA R := by
  refine ⟨hR, hR2, h.1, fun m hm => ?_, fun m hm => ?_, h.2⟩
  · rw [hHS m hm, MSt_recv C hro h, MSt_paid C hro h (TRF_bound C R m hm)]; rfl
  · rw [hUN m hm, owe_tot hro, MSt_paid C hro h (TRF_bound C R m hm)]; rfl
end MC
theorem failR_pos {T : Nat → Nat → Int} {m : Nat} : ∀ {q : Nat}, q ≤ 40000 → ¬ failR T m q ≤ 0 ∨ failR T m q = 0
  | 0, _ => Or.inr rfl
  | q + 1, hq => by
    simp only [failR]
    split
    · left
      rw [i32_le, ti0, nI_toInt (by omega)]; omega
    · exact failR_pos (by omega)
theorem cnt_step {f : Nat → Int32} {n : Nat} {v : Int32} (h : ¬ f n ≤ 0 ∨ f n = 0) (hv : (f n ≤ 0 ∧ v = 0) ∨ (¬ f n ≤ 0 ∧ v = 1)) : cntF f n + v = cntF f (n + 1) := by
  simp only [cntF]
  rcases hv with ⟨q1, q2⟩ | ⟨q1, q2⟩
  · rcases h with z | z
    · exact absurd q1 z
    · rw [q2, if_pos z]
  · rw [q2, if_neg (fun e => q1 (by rw [e]; decide))]
theorem cntF_congr {f g : Nat → Int32} : ∀ {n : Nat}, (∀ k, k < n → f k = g k) → cntF f n = cntF g n
  | 0, _ => rfl
  | n + 1, h => by simp only [cntF]; rw [cntF_congr (fun k hk => h k (by omega)), h n (by omega)]
theorem plain_ok {np nm : Nat} {fDB fCR fRK fLF fPU : Nat → Int32} (P : papOk np nm fDB fCR fRK fLF fPU) : rkOk fRK np := by
  intro k hk
  obtain ⟨j, hj, e⟩ := vp_in_of (P.2.2.2.2.1 k hk) (by decide)
  rw [e]
  match j, hj with
  | 0, _ => exact Or.inl rfl
  | 1, _ => exact Or.inr (Or.inl rfl)
  | 2, _ => exact Or.inr (Or.inr (Or.inl rfl))
  | 3, _ => exact Or.inr (Or.inr (Or.inr rfl))
  | j + 4, hj => omega
theorem ClearRes_out {np nm : Nat} {fDB fCR fPU du rk PD PD' HS UN FA FA' : Nat → Int32} {R : Nat} (h1 : ∀ k, k < np → PD' k = PD k) (h2 : ∀ m, m < nm → FA' m = FA m) (h : ClearRes np nm fDB fCR fPU du rk PD HS UN FA R) : ClearRes np nm fDB fCR fPU du rk PD' HS UN FA' R := by
  have ho : ∀ i, i < np → odF rk np i < np := fun i hi => by
    by_cases z : i < (ordO rk np 4).length
    · have e : (ordO rk np 4)[i]? = some (odF rk np i) := by
        show _ = some ((ordO rk np 4).getD i 0)
        rw [List.getD_eq_getElem?_getD, List.getElem?_eq_getElem z]; rfl
      exact ordO_lt_n _ (List.mem_of_getElem? e)
    · have e : odF rk np i = 0 := by
        show (ordO rk np 4).getD i 0 = 0
        rw [List.getD_eq_getElem?_getD, List.getElem?_eq_none (by omega)]; rfl
      omega
  obtain ⟨a, b, c, d, e, f⟩ := h
  exact ⟨a, b, fun i hi => by rw [h1 _ (ho i hi)]; exact c i hi, d, e, fun m hm => by rw [h2 m hm]; exact f m hm⟩
