/-- what is said of a man's papers: all that is left to him less all that is left of his -/
def netS (c d f : Nat → Int32) (x : Int32) : Nat → Int32
  | 0 => 0
  | n + 1 => if d n = x then (if c n = x then netS c d f x n + f n else netS c d f x n) - f n else (if c n = x then netS c d f x n + f n else netS c d f x n)
def sumS (f : Nat → Int32) : Nat → Int32
  | 0 => 0
  | n + 1 => sumS f n + f n
def told (d c k r y : Nat → Int32) (a b x z t : Int32) : Nat → Bool
  | 0 => false
  | n + 1 => told d c k r y a b x z t n || decide (d n = a ∧ c n = b ∧ k n = x ∧ r n = z ∧ y n = t)
theorem told_mono {d c k r y : Nat → Int32} {a b x z t : Int32} {i : Nat} (h : d i = a ∧ c i = b ∧ k i = x ∧ r i = z ∧ y i = t) : ∀ {n : Nat}, i < n → told d c k r y a b x z t n = true
  | 0, hi => absurd hi (Nat.not_lt_zero _)
  | n + 1, hi => by
    rcases Nat.lt_or_ge i n with q | q
    · simp [told, told_mono h q]
    · have e : i = n := by omega
      subst e
      simp [told, h]
theorem told_no {d c k r y : Nat → Int32} {a b x z t : Int32} {n : Nat} (h : told d c k r y a b x z t n = false) (h2 : ¬ (d n = a ∧ c n = b ∧ k n = x ∧ r n = z ∧ y n = t)) : told d c k r y a b x z t (n + 1) = false := by
  simp only [told, h, decide_eq_false h2, Bool.or_self]
/-- f below n, g from n on -/
def fil (f g : Nat → Int32) (n : Nat) : Nat → Int32 := fun k => if k < n then f k else g k
theorem fil_0 {f g : Nat → Int32} : fil f g 0 = g := by funext k; simp [fil]
theorem fil_at {f g h : Nat → Int32} {k : Nat} (e : h = fil f g k) : h k = g k := by rw [e]; simp [fil]
theorem fil_step {f g h : Nat → Int32} {k : Nat} {v : Int32} (e : h = fil f g k) (hv : v = f k) : upd h k v = fil f g (k + 1) := by
  subst e; funext j
  by_cases e1 : j = k
  · subst e1; simp [fil, upd, hv]
  · by_cases e2 : j < k
    · have e3 : j < k + 1 := by omega
      simp [fil, upd, e1, e2, e3]
    · have e3 : ¬ j < k + 1 := by omega
      simp [fil, upd, e1, e2, e3]
theorem fil_skip {f g h : Nat → Int32} {k : Nat} (e : h = fil f g k) (hv : f k = g k) : h = fil f g (k + 1) := by
  subst e; funext j
  by_cases e1 : j = k
  · subst e1; simp [fil, hv]
  · by_cases e2 : j < k
    · have e3 : j < k + 1 := by omega
      simp [fil, e2, e3]
    · have e3 : ¬ j < k + 1 := by omega
      simp [fil, e2, e3]
def rep (x y : Int32) (f : Nat → Int32) : Nat → Int32 := fun k => if f k = x then y else f k
def repL (x y : Int32) (d c f : Nat → Int32) : Nat → Int32 := fun k => if rep x y d k = rep x y c k then 0 else f k
def tellS (db cr tk rk lf dy cp : Nat → Int32) (q : Nat) (x : Int32) : Int32 :=
  if x = 0 then db q else if x = 1 then cr q else if x = 2 then tk q else if x = 3 then rk q else if x = 4 then lf q else if x = 5 then dy q else if cp q = 0 then 0 else 1

abbrev r_c_X3_holds : Room := { frames := 0, cells := 0, slots := 0, locals := 0 }
set_option maxHeartbeats 4000000 in
set_option maxRecDepth 100000 in
theorem c_X3_holds (l : Launch) (D : va_G) (cI cZ : ClassId) (aP : Nat) (aTD : Nat) (aTC : Nat) (aTK : Nat) (aTR : Nat) (aDY : Nat) (aCP : Nat) (aDB : Nat) (aCR : Nat) (aRK : Nat) (aLF : Nat) (np : Nat) (x : Int32)  : MI l yX3_holds wsX3_holds r_c_X3_holds D cI cZ [.ref aP, .int x] [ob aP 3 [.ref aTD, .ref aTC, .ref aTK, .ref aTR, .ref aDY, .ref aCP, .ref aDB, .ref aCR, .ref aRK, .ref aLF, .int (nI np)]] (fun (r : Int32) (u : Unit) => r = if 0 ≤ x ∧ x < nI np then 1 else 0) (fun (u : Unit) => [ob aP 3 [.ref aTD, .ref aTC, .ref aTK, .ref aTR, .ref aDY, .ref aCP, .ref aDB, .ref aCR, .ref aRK, .ref aLF, .int (nI np)]]) 0 0 := by
  refine MI.ofZ (cc := cX3_holds) (maxL := 2) (by decide) rfl (Nat.le_of_ble_eq_true rfl) ?_
  intro p e s m below meth c A Q hx hb hml hown hts hN hK hA ret hP hD hS ls hl
  have hown : s.vm.findClass RX3 = some m.cls := hown
  have inX3 : ∀ w ∈ wsX30, w ∈ wsX3_holds := by decide +kernel
  have fl43 := hts (.fieldLink RX3 43 "AdvanceBook$Papers" "size" "I") (by decide +kernel)
  have hP : va_P D vwCl [ob aP 3 [.ref aTD, .ref aTC, .ref aTK, .ref aTR, .ref aDY, .ref aCP, .ref aDB, .ref aCR, .ref aRK, .ref aLF, .int (nI np)]] s.heap := hP
  have hD : va_D A [ob aP 3 [.ref aTD, .ref aTC, .ref aTK, .ref aTR, .ref aDY, .ref aCP, .ref aDB, .ref aCR, .ref aRK, .ref aLF, .int (nI np)]] := hD
  have hl : lv_has ls 2 [(0, .ref aP), (1, .int x)] := hl
  refine lv_iload_n hx hb dX3_holds_0 rfl (lv_at hl 1 rfl) ?_
  refine lv_if_lt (tgt := 16) hx hb dX3_holds_1 (by decide) (fun c_1 => ?_) (fun c_1 => ?_)
  · skip
    refine lv_iconst (v := 0) hx hb dX3_holds_16 (by decide) ?_
    exact ret 0 () _ _ _ _ dX3_holds_17 (Or.inl rfl) (by grind) (hP) (hD) hS
  · skip
    refine lv_iload_n hx hb dX3_holds_4 rfl (lv_at hl 1 rfl) ?_
    refine lv_aload_n hx hb dX3_holds_5 rfl (lv_at hl 0 rfl) ?_
    refine va_get (D := D) (ci := 3) (v := .int (nI np)) (C := RX3) (T := TX3) (N := 11) hx hb hts inX3 hown hK hP 0 rfl rfl 10 (by decide) fl43 (fun _ h9 => h9) rfl dX3_holds_6 ?_
    refine lv_icmp_ge (tgt := 16) hx hb dX3_holds_9 (by decide) (fun c_9 => ?_) (fun c_9 => ?_)
    · skip
      refine lv_iconst (v := 0) hx hb dX3_holds_16 (by decide) ?_
      exact ret 0 () _ _ _ _ dX3_holds_17 (Or.inl rfl) (by grind) (hP) (hD) hS
    · skip
      refine lv_iconst (v := 1) hx hb dX3_holds_12 (by decide) ?_
      refine lv_goto (tgt := 17) hx hb dX3_holds_13 (by decide) ?_
      exact ret 1 () _ _ _ _ dX3_holds_17 (Or.inr rfl) (by grind) (hP) (hD) hS
abbrev r_c_X3_netOf : Room := { frames := 0, cells := 0, slots := 0, locals := 0 }
set_option maxHeartbeats 4000000 in
set_option maxRecDepth 100000 in
theorem c_X3_netOf (l : Launch) (D : va_G) (cI cZ : ClassId) (aP : Nat) (aTD : Nat) (aTC : Nat) (aTK : Nat) (aTR : Nat) (aDY : Nat) (aCP : Nat) (aDB : Nat) (aCR : Nat) (aRK : Nat) (aLF : Nat) (fCR : Nat → Int32) (fLF : Nat → Int32) (fDB : Nat → Int32) (np : Nat) (x : Int32) (hnp : np ≤ 40) : MI l yX3_netOf wsX3_netOf r_c_X3_netOf D cI cZ [.ref aP, .int x] [ob aP 3 [.ref aTD, .ref aTC, .ref aTK, .ref aTR, .ref aDY, .ref aCP, .ref aDB, .ref aCR, .ref aRK, .ref aLF, .int (nI np)], ar cI aCR 40 fCR, ar cI aLF 40 fLF, ar cI aDB 40 fDB] (fun (r : Int32) (u : Unit) => r = netS fCR fDB fLF x np) (fun (u : Unit) => [ob aP 3 [.ref aTD, .ref aTC, .ref aTK, .ref aTR, .ref aDY, .ref aCP, .ref aDB, .ref aCR, .ref aRK, .ref aLF, .int (nI np)], ar cI aCR 40 fCR, ar cI aLF 40 fLF, ar cI aDB 40 fDB]) 0 0 := by
  refine MI.of (cc := cX3_netOf) (maxL := 4) (by decide) rfl (Nat.le_of_ble_eq_true rfl) ?_
  intro p e s m below meth c A Q hx hb hml hown hts hN hK hA ret hP hD hS ls hl
  have hown : s.vm.findClass RX3 = some m.cls := hown
  have inX3 : ∀ w ∈ wsX30, w ∈ wsX3_netOf := by decide +kernel
  have fl31 := hts (.fieldLink RX3 31 "AdvanceBook$Papers" "debtors" "[I") (by decide +kernel)
  have fl34 := hts (.fieldLink RX3 34 "AdvanceBook$Papers" "creditors" "[I") (by decide +kernel)
  have fl40 := hts (.fieldLink RX3 40 "AdvanceBook$Papers" "lefts" "[I") (by decide +kernel)
  have fl43 := hts (.fieldLink RX3 43 "AdvanceBook$Papers" "size" "I") (by decide +kernel)
  have hP : va_P D vwCl [ob aP 3 [.ref aTD, .ref aTC, .ref aTK, .ref aTR, .ref aDY, .ref aCP, .ref aDB, .ref aCR, .ref aRK, .ref aLF, .int (nI np)], ar cI aCR 40 fCR, ar cI aLF 40 fLF, ar cI aDB 40 fDB] s.heap := hP
  have hD : va_D A [ob aP 3 [.ref aTD, .ref aTC, .ref aTK, .ref aTR, .ref aDY, .ref aCP, .ref aDB, .ref aCR, .ref aRK, .ref aLF, .int (nI np)], ar cI aCR 40 fCR, ar cI aLF 40 fLF, ar cI aDB 40 fDB] := hD
  have hl : lv_has ls 4 [(0, .ref aP), (1, .int x)] := hl
  refine lv_iconst (v := 0) hx hb dX3_netOf_0 (by decide) ?_
  refine lv_istore_n (lv' := [(2, .int 0), (0, .ref aP), (1, .int x)]) hx hb dX3_netOf_1 rfl hl (by decide) rfl (fun ls hl => ?_)
  refine lv_iconst (v := 0) hx hb dX3_netOf_2 (by decide) ?_
  refine lv_istore_n (lv' := [(3, .int 0), (2, .int 0), (0, .ref aP), (1, .int x)]) hx hb dX3_netOf_3 rfl hl (by decide) rfl (fun ls hl => ?_)
  have L_4 : ∀ (n : Nat) (k : Nat) (sm : Int32), (np - k < n) → (k ≤ np) → (sm = netS fCR fDB fLF x k) → ∀ (H : Heap) (locs : List Loc), va_P D vwCl [ob aP 3 [.ref aTD, .ref aTC, .ref aTK, .ref aTR, .ref aDY, .ref aCP, .ref aDB, .ref aCR, .ref aRK, .ref aLF, .int (nI np)], ar cI aCR 40 fCR, ar cI aLF 40 fLF, ar cI aDB 40 fDB] H → va_D A [ob aP 3 [.ref aTD, .ref aTC, .ref aTK, .ref aTR, .ref aDY, .ref aCP, .ref aDB, .ref aCR, .ref aRK, .ref aLF, .int (nI np)], ar cI aCR 40 fCR, ar cI aLF 40 fLF, ar cI aDB 40 fDB] → va_S A s.heap H locs → ∀ ls : Array Slot, lv_has ls 4 [(0, .ref aP), (1, .int x), (2, .int sm), (3, .int (nI k))] → W p l e r_c_X3_netOf s m (([.ref aP, .int x] : List Value).toArray) below meth c H locs 0 0 Q (F0 m 4 ls []) := by
    intro n
    induction n with
    | zero => intro k sm hfu; exact absurd hfu (Nat.not_lt_zero _)
    | succ n ih =>
      intro k sm hfu hk hs H locs hP hD hS ls hl
      refine lv_iload_n hx hb dX3_netOf_4 rfl (lv_at hl 3 rfl) ?_
      refine lv_aload_n hx hb dX3_netOf_5 rfl (lv_at hl 0 rfl) ?_
      refine va_get (D := D) (ci := 3) (v := .int (nI np)) (C := RX3) (T := TX3) (N := 11) hx hb hts inX3 hown hK hP 0 rfl rfl 10 (by decide) fl43 (fun _ h9 => h9) rfl dX3_netOf_6 ?_
      refine lv_icmp_ge (tgt := 56) hx hb dX3_netOf_9 (by decide) (fun c_9 => ?_) (fun c_9 => ?_)
      · skip
        have k_9 : np ≤ k := (nI_leI (a := np) (b := k) (by omega) (by omega)).mp c_9
        refine lv_iload_n hx hb dX3_netOf_56 rfl (lv_at hl 2 rfl) ?_
        exact ret sm () _ _ _ _ dX3_netOf_57 (by have e : k = np := (by omega); subst e; exact hs) (hP) (hD) hS
      · skip
        have k_9 : ¬ np ≤ k := fun h9 => c_9 ((nI_leI (a := np) (b := k) (by omega) (by omega)).mpr h9)
        refine lv_aload_n hx hb dX3_netOf_12 rfl (lv_at hl 0 rfl) ?_
        refine va_get (D := D) (ci := 3) (v := .ref aCR) (C := RX3) (T := TX3) (N := 11) hx hb hts inX3 hown hK hP 0 rfl rfl 7 (by decide) fl34 (fun _ h9 => h9) rfl dX3_netOf_13 ?_
        refine lv_iload_n hx hb dX3_netOf_16 rfl (lv_at hl 3 rfl) ?_
        refine m_iald (k := k) hx hb hK hP 1 0 rfl rfl (by omega) (by decide) dX3_netOf_17 ?_
        refine lv_iload_n hx hb dX3_netOf_18 rfl (lv_at hl 1 rfl) ?_
        refine lv_icmp_ne (tgt := 31) hx hb dX3_netOf_19 (by decide) (fun c_19 => ?_) (fun c_19 => ?_)
        · skip
          refine lv_aload_n hx hb dX3_netOf_31 rfl (lv_at hl 0 rfl) ?_
          refine va_get (D := D) (ci := 3) (v := .ref aDB) (C := RX3) (T := TX3) (N := 11) hx hb hts inX3 hown hK hP 0 rfl rfl 6 (by decide) fl31 (fun _ h9 => h9) rfl dX3_netOf_32 ?_
          refine lv_iload_n hx hb dX3_netOf_35 rfl (lv_at hl 3 rfl) ?_
          refine m_iald (k := k) hx hb hK hP 3 0 rfl rfl (by omega) (by decide) dX3_netOf_36 ?_
          refine lv_iload_n hx hb dX3_netOf_37 rfl (lv_at hl 1 rfl) ?_
          refine lv_icmp_ne (tgt := 50) hx hb dX3_netOf_38 (by decide) (fun c_38 => ?_) (fun c_38 => ?_)
          · skip
            refine lv_iinc (v := (nI (k + 1))) (lv' := [(3, .int (nI (k + 1))), (0, .ref aP), (1, .int x), (2, .int sm)]) hx hb dX3_netOf_50 hl (k := 3) rfl (nI_inc k 1 (by decide)) (by decide) rfl (fun ls hl => ?_)
            refine lv_goto (tgt := 4) hx hb dX3_netOf_53 (by decide) ?_
            exact ih (k + 1) sm (by omega) (by omega) (by simp only [netS, c_19, c_38, hs, if_true, if_false]) _ _ (hP) (hD) hS ls (lv_sub hl [1, 2, 3, 0] rfl)
          · skip
            refine lv_iload_n hx hb dX3_netOf_41 rfl (lv_at hl 2 rfl) ?_
            refine lv_aload_n hx hb dX3_netOf_42 rfl (lv_at hl 0 rfl) ?_
            refine va_get (D := D) (ci := 3) (v := .ref aLF) (C := RX3) (T := TX3) (N := 11) hx hb hts inX3 hown hK hP 0 rfl rfl 9 (by decide) fl40 (fun _ h9 => h9) rfl dX3_netOf_43 ?_
            refine lv_iload_n hx hb dX3_netOf_46 rfl (lv_at hl 3 rfl) ?_
            refine m_iald (k := k) hx hb hK hP 2 0 rfl rfl (by omega) (by decide) dX3_netOf_47 ?_
            refine lv_isub hx hb dX3_netOf_48 ?_
            refine lv_istore_n (lv' := [(2, .int (sm - (fLF k))), (0, .ref aP), (1, .int x), (3, .int (nI k))]) hx hb dX3_netOf_49 rfl hl (by decide) rfl (fun ls hl => ?_)
            refine lv_iinc (v := (nI (k + 1))) (lv' := [(3, .int (nI (k + 1))), (2, .int (sm - (fLF k))), (0, .ref aP), (1, .int x)]) hx hb dX3_netOf_50 hl (k := 3) rfl (nI_inc k 1 (by decide)) (by decide) rfl (fun ls hl => ?_)
            refine lv_goto (tgt := 4) hx hb dX3_netOf_53 (by decide) ?_
            exact ih (k + 1) (sm - (fLF k)) (by omega) (by omega) (by simp only [netS, c_19, c_38, hs, if_true, if_false]) _ _ (hP) (hD) hS ls (lv_sub hl [2, 3, 1, 0] rfl)
        · skip
          refine lv_iload_n hx hb dX3_netOf_22 rfl (lv_at hl 2 rfl) ?_
          refine lv_aload_n hx hb dX3_netOf_23 rfl (lv_at hl 0 rfl) ?_
          refine va_get (D := D) (ci := 3) (v := .ref aLF) (C := RX3) (T := TX3) (N := 11) hx hb hts inX3 hown hK hP 0 rfl rfl 9 (by decide) fl40 (fun _ h9 => h9) rfl dX3_netOf_24 ?_
          refine lv_iload_n hx hb dX3_netOf_27 rfl (lv_at hl 3 rfl) ?_
          refine m_iald (k := k) hx hb hK hP 2 0 rfl rfl (by omega) (by decide) dX3_netOf_28 ?_
          refine lv_iadd hx hb dX3_netOf_29 ?_
          refine lv_istore_n (lv' := [(2, .int (sm + (fLF k))), (0, .ref aP), (1, .int x), (3, .int (nI k))]) hx hb dX3_netOf_30 rfl hl (by decide) rfl (fun ls hl => ?_)
          refine lv_aload_n hx hb dX3_netOf_31 rfl (lv_at hl 1 rfl) ?_
          refine va_get (D := D) (ci := 3) (v := .ref aDB) (C := RX3) (T := TX3) (N := 11) hx hb hts inX3 hown hK hP 0 rfl rfl 6 (by decide) fl31 (fun _ h9 => h9) rfl dX3_netOf_32 ?_
          refine lv_iload_n hx hb dX3_netOf_35 rfl (lv_at hl 3 rfl) ?_
          refine m_iald (k := k) hx hb hK hP 3 0 rfl rfl (by omega) (by decide) dX3_netOf_36 ?_
          refine lv_iload_n hx hb dX3_netOf_37 rfl (lv_at hl 2 rfl) ?_
          refine lv_icmp_ne (tgt := 50) hx hb dX3_netOf_38 (by decide) (fun c_38 => ?_) (fun c_38 => ?_)
          · skip
            refine lv_iinc (v := (nI (k + 1))) (lv' := [(3, .int (nI (k + 1))), (2, .int (sm + (fLF k))), (0, .ref aP), (1, .int x)]) hx hb dX3_netOf_50 hl (k := 3) rfl (nI_inc k 1 (by decide)) (by decide) rfl (fun ls hl => ?_)
            refine lv_goto (tgt := 4) hx hb dX3_netOf_53 (by decide) ?_
            exact ih (k + 1) (sm + (fLF k)) (by omega) (by omega) (by simp only [netS, c_19, c_38, hs, if_true, if_false]) _ _ (hP) (hD) hS ls (lv_sub hl [2, 3, 1, 0] rfl)
          · skip
            refine lv_iload_n hx hb dX3_netOf_41 rfl (lv_at hl 0 rfl) ?_
            refine lv_aload_n hx hb dX3_netOf_42 rfl (lv_at hl 1 rfl) ?_
            refine va_get (D := D) (ci := 3) (v := .ref aLF) (C := RX3) (T := TX3) (N := 11) hx hb hts inX3 hown hK hP 0 rfl rfl 9 (by decide) fl40 (fun _ h9 => h9) rfl dX3_netOf_43 ?_
            refine lv_iload_n hx hb dX3_netOf_46 rfl (lv_at hl 3 rfl) ?_
            refine m_iald (k := k) hx hb hK hP 2 0 rfl rfl (by omega) (by decide) dX3_netOf_47 ?_
            refine lv_isub hx hb dX3_netOf_48 ?_
            refine lv_istore_n (lv' := [(2, .int ((sm + (fLF k)) - (fLF k))), (0, .ref aP), (1, .int x), (3, .int (nI k))]) hx hb dX3_netOf_49 rfl hl (by decide) rfl (fun ls hl => ?_)
            refine lv_iinc (v := (nI (k + 1))) (lv' := [(3, .int (nI (k + 1))), (2, .int ((sm + (fLF k)) - (fLF k))), (0, .ref aP), (1, .int x)]) hx hb dX3_netOf_50 hl (k := 3) rfl (nI_inc k 1 (by decide)) (by decide) rfl (fun ls hl => ?_)
            refine lv_goto (tgt := 4) hx hb dX3_netOf_53 (by decide) ?_
            exact ih (k + 1) ((sm + (fLF k)) - (fLF k)) (by omega) (by omega) (by simp only [netS, c_19, c_38, hs, if_true, if_false]) _ _ (hP) (hD) hS ls (lv_sub hl [2, 3, 1, 0] rfl)
  exact L_4 ((np - 0) + 1) 0 0 (Nat.lt_succ_self _) (by omega) (rfl) _ _ (hP) (hD) hS ls (lv_sub hl [2, 3, 1, 0] rfl)
abbrev r_c_X3_leftInAll : Room := { frames := 0, cells := 0, slots := 0, locals := 0 }
set_option maxHeartbeats 4000000 in
set_option maxRecDepth 100000 in
theorem c_X3_leftInAll (l : Launch) (D : va_G) (cI cZ : ClassId) (aP : Nat) (aTD : Nat) (aTC : Nat) (aTK : Nat) (aTR : Nat) (aDY : Nat) (aCP : Nat) (aDB : Nat) (aCR : Nat) (aRK : Nat) (aLF : Nat) (fLF : Nat → Int32) (np : Nat) (hnp : np ≤ 40) : MI l yX3_leftInAll wsX3_leftInAll r_c_X3_leftInAll D cI cZ [.ref aP] [ob aP 3 [.ref aTD, .ref aTC, .ref aTK, .ref aTR, .ref aDY, .ref aCP, .ref aDB, .ref aCR, .ref aRK, .ref aLF, .int (nI np)], ar cI aLF 40 fLF] (fun (r : Int32) (u : Unit) => r = sumS fLF np) (fun (u : Unit) => [ob aP 3 [.ref aTD, .ref aTC, .ref aTK, .ref aTR, .ref aDY, .ref aCP, .ref aDB, .ref aCR, .ref aRK, .ref aLF, .int (nI np)], ar cI aLF 40 fLF]) 0 0 := by
  refine MI.of (cc := cX3_leftInAll) (maxL := 3) (by decide) rfl (Nat.le_of_ble_eq_true rfl) ?_
  intro p e s m below meth c A Q hx hb hml hown hts hN hK hA ret hP hD hS ls hl
  have hown : s.vm.findClass RX3 = some m.cls := hown
  have inX3 : ∀ w ∈ wsX30, w ∈ wsX3_leftInAll := by decide +kernel
  have fl40 := hts (.fieldLink RX3 40 "AdvanceBook$Papers" "lefts" "[I") (by decide +kernel)
  have fl43 := hts (.fieldLink RX3 43 "AdvanceBook$Papers" "size" "I") (by decide +kernel)
  have hP : va_P D vwCl [ob aP 3 [.ref aTD, .ref aTC, .ref aTK, .ref aTR, .ref aDY, .ref aCP, .ref aDB, .ref aCR, .ref aRK, .ref aLF, .int (nI np)], ar cI aLF 40 fLF] s.heap := hP
  have hD : va_D A [ob aP 3 [.ref aTD, .ref aTC, .ref aTK, .ref aTR, .ref aDY, .ref aCP, .ref aDB, .ref aCR, .ref aRK, .ref aLF, .int (nI np)], ar cI aLF 40 fLF] := hD
  have hl : lv_has ls 3 [(0, .ref aP)] := hl
  refine lv_iconst (v := 0) hx hb dX3_leftInAll_0 (by decide) ?_
  refine lv_istore_n (lv' := [(1, .int 0), (0, .ref aP)]) hx hb dX3_leftInAll_1 rfl hl (by decide) rfl (fun ls hl => ?_)
  refine lv_iconst (v := 0) hx hb dX3_leftInAll_2 (by decide) ?_
  refine lv_istore_n (lv' := [(2, .int 0), (1, .int 0), (0, .ref aP)]) hx hb dX3_leftInAll_3 rfl hl (by decide) rfl (fun ls hl => ?_)
  have L_4 : ∀ (n : Nat) (k : Nat) (sm : Int32), (np - k < n) → (k ≤ np) → (sm = sumS fLF k) → ∀ (H : Heap) (locs : List Loc), va_P D vwCl [ob aP 3 [.ref aTD, .ref aTC, .ref aTK, .ref aTR, .ref aDY, .ref aCP, .ref aDB, .ref aCR, .ref aRK, .ref aLF, .int (nI np)], ar cI aLF 40 fLF] H → va_D A [ob aP 3 [.ref aTD, .ref aTC, .ref aTK, .ref aTR, .ref aDY, .ref aCP, .ref aDB, .ref aCR, .ref aRK, .ref aLF, .int (nI np)], ar cI aLF 40 fLF] → va_S A s.heap H locs → ∀ ls : Array Slot, lv_has ls 3 [(0, .ref aP), (1, .int sm), (2, .int (nI k))] → W p l e r_c_X3_leftInAll s m (([.ref aP] : List Value).toArray) below meth c H locs 0 0 Q (F0 m 4 ls []) := by
    intro n
    induction n with
    | zero => intro k sm hfu; exact absurd hfu (Nat.not_lt_zero _)
    | succ n ih =>
      intro k sm hfu hk hs H locs hP hD hS ls hl
      refine lv_iload_n hx hb dX3_leftInAll_4 rfl (lv_at hl 2 rfl) ?_
      refine lv_aload_n hx hb dX3_leftInAll_5 rfl (lv_at hl 0 rfl) ?_
      refine va_get (D := D) (ci := 3) (v := .int (nI np)) (C := RX3) (T := TX3) (N := 11) hx hb hts inX3 hown hK hP 0 rfl rfl 10 (by decide) fl43 (fun _ h9 => h9) rfl dX3_leftInAll_6 ?_
      refine lv_icmp_ge (tgt := 27) hx hb dX3_leftInAll_9 (by decide) (fun c_9 => ?_) (fun c_9 => ?_)
      · skip
        have k_9 : np ≤ k := (nI_leI (a := np) (b := k) (by omega) (by omega)).mp c_9
        refine lv_iload_n hx hb dX3_leftInAll_27 rfl (lv_at hl 1 rfl) ?_
        exact ret sm () _ _ _ _ dX3_leftInAll_28 (by have e : k = np := (by omega); subst e; exact hs) (hP) (hD) hS
      · skip
        have k_9 : ¬ np ≤ k := fun h9 => c_9 ((nI_leI (a := np) (b := k) (by omega) (by omega)).mpr h9)
        refine lv_iload_n hx hb dX3_leftInAll_12 rfl (lv_at hl 1 rfl) ?_
        refine lv_aload_n hx hb dX3_leftInAll_13 rfl (lv_at hl 0 rfl) ?_
        refine va_get (D := D) (ci := 3) (v := .ref aLF) (C := RX3) (T := TX3) (N := 11) hx hb hts inX3 hown hK hP 0 rfl rfl 9 (by decide) fl40 (fun _ h9 => h9) rfl dX3_leftInAll_14 ?_
        refine lv_iload_n hx hb dX3_leftInAll_17 rfl (lv_at hl 2 rfl) ?_
        refine m_iald (k := k) hx hb hK hP 1 0 rfl rfl (by omega) (by decide) dX3_leftInAll_18 ?_
        refine lv_iadd hx hb dX3_leftInAll_19 ?_
        refine lv_istore_n (lv' := [(1, .int (sm + (fLF k))), (0, .ref aP), (2, .int (nI k))]) hx hb dX3_leftInAll_20 rfl hl (by decide) rfl (fun ls hl => ?_)
        refine lv_iinc (v := (nI (k + 1))) (lv' := [(2, .int (nI (k + 1))), (1, .int (sm + (fLF k))), (0, .ref aP)]) hx hb dX3_leftInAll_21 hl (k := 2) rfl (nI_inc k 1 (by decide)) (by decide) rfl (fun ls hl => ?_)
        refine lv_goto (tgt := 4) hx hb dX3_leftInAll_24 (by decide) ?_
        exact ih (k + 1) (sm + (fLF k)) (by omega) (by omega) (by rw [hs]; rfl) _ _ (hP) (hD) hS ls (lv_sub hl [2, 1, 0] rfl)
  exact L_4 ((np - 0) + 1) 0 0 (Nat.lt_succ_self _) (by omega) (rfl) _ _ (hP) (hD) hS ls (lv_sub hl [2, 1, 0] rfl)
abbrev r_c_X3_isTold : Room := { frames := 0, cells := 0, slots := 0, locals := 0 }
set_option maxHeartbeats 4000000 in
set_option maxRecDepth 100000 in
theorem c_X3_isTold (l : Launch) (D : va_G) (cI cZ : ClassId) (aP : Nat) (aTD : Nat) (aTC : Nat) (aTK : Nat) (aTR : Nat) (aDY : Nat) (aCP : Nat) (aDB : Nat) (aCR : Nat) (aRK : Nat) (aLF : Nat) (fTD : Nat → Int32) (fTC : Nat → Int32) (fTK : Nat → Int32) (fTR : Nat → Int32) (fDY : Nat → Int32) (np : Nat) (a : Int32) (b : Int32) (x : Int32) (z : Int32) (t : Int32) (hnp : np ≤ 40) : MI l yX3_isTold wsX3_isTold r_c_X3_isTold D cI cZ [.ref aP, .int a, .int b, .int x, .int z, .int t] [ob aP 3 [.ref aTD, .ref aTC, .ref aTK, .ref aTR, .ref aDY, .ref aCP, .ref aDB, .ref aCR, .ref aRK, .ref aLF, .int (nI np)], ar cI aTD 40 fTD, ar cI aTC 40 fTC, ar cI aTK 40 fTK, ar cI aTR 40 fTR, ar cI aDY 40 fDY] (fun (r : Int32) (u : Unit) => r = if told fTD fTC fTK fTR fDY a b x z t np = true then 1 else 0) (fun (u : Unit) => [ob aP 3 [.ref aTD, .ref aTC, .ref aTK, .ref aTR, .ref aDY, .ref aCP, .ref aDB, .ref aCR, .ref aRK, .ref aLF, .int (nI np)], ar cI aTD 40 fTD, ar cI aTC 40 fTC, ar cI aTK 40 fTK, ar cI aTR 40 fTR, ar cI aDY 40 fDY]) 0 0 := by
  refine MI.ofZ (cc := cX3_isTold) (maxL := 7) (by decide) rfl (Nat.le_of_ble_eq_true rfl) ?_
  intro p e s m below meth c A Q hx hb hml hown hts hN hK hA ret hP hD hS ls hl
  have hown : s.vm.findClass RX3 = some m.cls := hown
  have inX3 : ∀ w ∈ wsX30, w ∈ wsX3_isTold := by decide +kernel
  have fl9 := hts (.fieldLink RX3 9 "AdvanceBook$Papers" "toldDebtors" "[I") (by decide +kernel)
  have fl15 := hts (.fieldLink RX3 15 "AdvanceBook$Papers" "toldCreditors" "[I") (by decide +kernel)
  have fl18 := hts (.fieldLink RX3 18 "AdvanceBook$Papers" "toldCoins" "[I") (by decide +kernel)
  have fl21 := hts (.fieldLink RX3 21 "AdvanceBook$Papers" "toldRanks" "[I") (by decide +kernel)
  have fl24 := hts (.fieldLink RX3 24 "AdvanceBook$Papers" "days" "[I") (by decide +kernel)
  have fl43 := hts (.fieldLink RX3 43 "AdvanceBook$Papers" "size" "I") (by decide +kernel)
  have hP : va_P D vwCl [ob aP 3 [.ref aTD, .ref aTC, .ref aTK, .ref aTR, .ref aDY, .ref aCP, .ref aDB, .ref aCR, .ref aRK, .ref aLF, .int (nI np)], ar cI aTD 40 fTD, ar cI aTC 40 fTC, ar cI aTK 40 fTK, ar cI aTR 40 fTR, ar cI aDY 40 fDY] s.heap := hP
  have hD : va_D A [ob aP 3 [.ref aTD, .ref aTC, .ref aTK, .ref aTR, .ref aDY, .ref aCP, .ref aDB, .ref aCR, .ref aRK, .ref aLF, .int (nI np)], ar cI aTD 40 fTD, ar cI aTC 40 fTC, ar cI aTK 40 fTK, ar cI aTR 40 fTR, ar cI aDY 40 fDY] := hD
  have hl : lv_has ls 7 [(0, .ref aP), (1, .int a), (2, .int b), (3, .int x), (4, .int z), (5, .int t)] := hl
  refine lv_iconst (v := 0) hx hb dX3_isTold_0 (by decide) ?_
  refine lv_istore (lv' := [(6, .int 0), (0, .ref aP), (1, .int a), (2, .int b), (3, .int x), (4, .int z), (5, .int t)]) hx hb dX3_isTold_1 hl (by decide) rfl (fun ls hl => ?_)
  have L_3 : ∀ (n : Nat) (k : Nat), (np - k < n) → (k ≤ np) → (told fTD fTC fTK fTR fDY a b x z t k = false) → ∀ (H : Heap) (locs : List Loc), va_P D vwCl [ob aP 3 [.ref aTD, .ref aTC, .ref aTK, .ref aTR, .ref aDY, .ref aCP, .ref aDB, .ref aCR, .ref aRK, .ref aLF, .int (nI np)], ar cI aTD 40 fTD, ar cI aTC 40 fTC, ar cI aTK 40 fTK, ar cI aTR 40 fTR, ar cI aDY 40 fDY] H → va_D A [ob aP 3 [.ref aTD, .ref aTC, .ref aTK, .ref aTR, .ref aDY, .ref aCP, .ref aDB, .ref aCR, .ref aRK, .ref aLF, .int (nI np)], ar cI aTD 40 fTD, ar cI aTC 40 fTC, ar cI aTK 40 fTK, ar cI aTR 40 fTR, ar cI aDY 40 fDY] → va_S A s.heap H locs → ∀ ls : Array Slot, lv_has ls 7 [(0, .ref aP), (1, .int a), (2, .int b), (3, .int x), (4, .int z), (5, .int t), (6, .int (nI k))] → W p l e r_c_X3_isTold s m (([.ref aP, .int a, .int b, .int x, .int z, .int t] : List Value).toArray) below meth c H locs 0 0 Q (F0 m 3 ls []) := by
    intro n
    induction n with
    | zero => intro k hfu; exact absurd hfu (Nat.not_lt_zero _)
    | succ n ih =>
      intro k hfu hk hs H locs hP hD hS ls hl
      refine lv_iload hx hb dX3_isTold_3 (lv_at hl 6 rfl) ?_
      refine lv_aload_n hx hb dX3_isTold_5 rfl (lv_at hl 0 rfl) ?_
      refine va_get (D := D) (ci := 3) (v := .int (nI np)) (C := RX3) (T := TX3) (N := 11) hx hb hts inX3 hown hK hP 0 rfl rfl 10 (by decide) fl43 (fun _ h9 => h9) rfl dX3_isTold_6 ?_
      refine lv_icmp_ge (tgt := 77) hx hb dX3_isTold_9 (by decide) (fun c_9 => ?_) (fun c_9 => ?_)
      · skip
        have k_9 : np ≤ k := (nI_leI (a := np) (b := k) (by omega) (by omega)).mp c_9
        refine lv_iconst (v := 0) hx hb dX3_isTold_77 (by decide) ?_
        exact ret 0 () _ _ _ _ dX3_isTold_78 (Or.inl rfl) (by have e : k = np := (by omega); subst e; rw [hs]; rfl) (hP) (hD) hS
      · skip
        have k_9 : ¬ np ≤ k := fun h9 => c_9 ((nI_leI (a := np) (b := k) (by omega) (by omega)).mpr h9)
        refine lv_aload_n hx hb dX3_isTold_12 rfl (lv_at hl 0 rfl) ?_
        refine va_get (D := D) (ci := 3) (v := .ref aTD) (C := RX3) (T := TX3) (N := 11) hx hb hts inX3 hown hK hP 0 rfl rfl 0 (by decide) fl9 (fun _ h9 => h9) rfl dX3_isTold_13 ?_
        refine lv_iload hx hb dX3_isTold_16 (lv_at hl 6 rfl) ?_
        refine m_iald (k := k) hx hb hK hP 1 0 rfl rfl (by omega) (by decide) dX3_isTold_18 ?_
        refine lv_iload_n hx hb dX3_isTold_19 rfl (lv_at hl 1 rfl) ?_
        refine lv_icmp_ne (tgt := 71) hx hb dX3_isTold_20 (by decide) (fun c_20 => ?_) (fun c_20 => ?_)
        · skip
          refine lv_iinc (v := (nI (k + 1))) (lv' := [(6, .int (nI (k + 1))), (0, .ref aP), (1, .int a), (2, .int b), (3, .int x), (4, .int z), (5, .int t)]) hx hb dX3_isTold_71 hl (k := 6) rfl (nI_inc k 1 (by decide)) (by decide) rfl (fun ls hl => ?_)
          refine lv_goto (tgt := 3) hx hb dX3_isTold_74 (by decide) ?_
          exact ih (k + 1) (by omega) (by omega) (told_no hs (by simp [*])) _ _ (hP) (hD) hS ls (lv_sub hl [1, 2, 3, 4, 5, 6, 0] rfl)
        · skip
          refine lv_aload_n hx hb dX3_isTold_23 rfl (lv_at hl 0 rfl) ?_
          refine va_get (D := D) (ci := 3) (v := .ref aTC) (C := RX3) (T := TX3) (N := 11) hx hb hts inX3 hown hK hP 0 rfl rfl 1 (by decide) fl15 (fun _ h9 => h9) rfl dX3_isTold_24 ?_
          refine lv_iload hx hb dX3_isTold_27 (lv_at hl 6 rfl) ?_
          refine m_iald (k := k) hx hb hK hP 2 0 rfl rfl (by omega) (by decide) dX3_isTold_29 ?_
          refine lv_iload_n hx hb dX3_isTold_30 rfl (lv_at hl 2 rfl) ?_
          refine lv_icmp_ne (tgt := 71) hx hb dX3_isTold_31 (by decide) (fun c_31 => ?_) (fun c_31 => ?_)
          · skip
            refine lv_iinc (v := (nI (k + 1))) (lv' := [(6, .int (nI (k + 1))), (0, .ref aP), (1, .int a), (2, .int b), (3, .int x), (4, .int z), (5, .int t)]) hx hb dX3_isTold_71 hl (k := 6) rfl (nI_inc k 1 (by decide)) (by decide) rfl (fun ls hl => ?_)
            refine lv_goto (tgt := 3) hx hb dX3_isTold_74 (by decide) ?_
            exact ih (k + 1) (by omega) (by omega) (told_no hs (by simp [*])) _ _ (hP) (hD) hS ls (lv_sub hl [1, 2, 3, 4, 5, 6, 0] rfl)
          · skip
            refine lv_aload_n hx hb dX3_isTold_34 rfl (lv_at hl 0 rfl) ?_
            refine va_get (D := D) (ci := 3) (v := .ref aTK) (C := RX3) (T := TX3) (N := 11) hx hb hts inX3 hown hK hP 0 rfl rfl 2 (by decide) fl18 (fun _ h9 => h9) rfl dX3_isTold_35 ?_
            refine lv_iload hx hb dX3_isTold_38 (lv_at hl 6 rfl) ?_
            refine m_iald (k := k) hx hb hK hP 3 0 rfl rfl (by omega) (by decide) dX3_isTold_40 ?_
            refine lv_iload_n hx hb dX3_isTold_41 rfl (lv_at hl 3 rfl) ?_
            refine lv_icmp_ne (tgt := 71) hx hb dX3_isTold_42 (by decide) (fun c_42 => ?_) (fun c_42 => ?_)
            · skip
              refine lv_iinc (v := (nI (k + 1))) (lv' := [(6, .int (nI (k + 1))), (0, .ref aP), (1, .int a), (2, .int b), (3, .int x), (4, .int z), (5, .int t)]) hx hb dX3_isTold_71 hl (k := 6) rfl (nI_inc k 1 (by decide)) (by decide) rfl (fun ls hl => ?_)
              refine lv_goto (tgt := 3) hx hb dX3_isTold_74 (by decide) ?_
              exact ih (k + 1) (by omega) (by omega) (told_no hs (by simp [*])) _ _ (hP) (hD) hS ls (lv_sub hl [1, 2, 3, 4, 5, 6, 0] rfl)
            · skip
              refine lv_aload_n hx hb dX3_isTold_45 rfl (lv_at hl 0 rfl) ?_
              refine va_get (D := D) (ci := 3) (v := .ref aTR) (C := RX3) (T := TX3) (N := 11) hx hb hts inX3 hown hK hP 0 rfl rfl 3 (by decide) fl21 (fun _ h9 => h9) rfl dX3_isTold_46 ?_
              refine lv_iload hx hb dX3_isTold_49 (lv_at hl 6 rfl) ?_
              refine m_iald (k := k) hx hb hK hP 4 0 rfl rfl (by omega) (by decide) dX3_isTold_51 ?_
              refine lv_iload hx hb dX3_isTold_52 (lv_at hl 4 rfl) ?_
              refine lv_icmp_ne (tgt := 71) hx hb dX3_isTold_54 (by decide) (fun c_54 => ?_) (fun c_54 => ?_)
              · skip
                refine lv_iinc (v := (nI (k + 1))) (lv' := [(6, .int (nI (k + 1))), (0, .ref aP), (1, .int a), (2, .int b), (3, .int x), (4, .int z), (5, .int t)]) hx hb dX3_isTold_71 hl (k := 6) rfl (nI_inc k 1 (by decide)) (by decide) rfl (fun ls hl => ?_)
                refine lv_goto (tgt := 3) hx hb dX3_isTold_74 (by decide) ?_
                exact ih (k + 1) (by omega) (by omega) (told_no hs (by simp [*])) _ _ (hP) (hD) hS ls (lv_sub hl [1, 2, 3, 4, 5, 6, 0] rfl)
              · skip
                refine lv_aload_n hx hb dX3_isTold_57 rfl (lv_at hl 0 rfl) ?_
                refine va_get (D := D) (ci := 3) (v := .ref aDY) (C := RX3) (T := TX3) (N := 11) hx hb hts inX3 hown hK hP 0 rfl rfl 4 (by decide) fl24 (fun _ h9 => h9) rfl dX3_isTold_58 ?_
                refine lv_iload hx hb dX3_isTold_61 (lv_at hl 6 rfl) ?_
                refine m_iald (k := k) hx hb hK hP 5 0 rfl rfl (by omega) (by decide) dX3_isTold_63 ?_
                refine lv_iload hx hb dX3_isTold_64 (lv_at hl 5 rfl) ?_
                refine lv_icmp_ne (tgt := 71) hx hb dX3_isTold_66 (by decide) (fun c_66 => ?_) (fun c_66 => ?_)
                · skip
                  refine lv_iinc (v := (nI (k + 1))) (lv' := [(6, .int (nI (k + 1))), (0, .ref aP), (1, .int a), (2, .int b), (3, .int x), (4, .int z), (5, .int t)]) hx hb dX3_isTold_71 hl (k := 6) rfl (nI_inc k 1 (by decide)) (by decide) rfl (fun ls hl => ?_)
                  refine lv_goto (tgt := 3) hx hb dX3_isTold_74 (by decide) ?_
                  exact ih (k + 1) (by omega) (by omega) (told_no hs (by simp [*])) _ _ (hP) (hD) hS ls (lv_sub hl [1, 2, 3, 4, 5, 6, 0] rfl)
                · skip
                  refine lv_iconst (v := 1) hx hb dX3_isTold_69 (by decide) ?_
                  exact ret 1 () _ _ _ _ dX3_isTold_70 (Or.inr rfl) (by rw [told_mono (i := k) (n := np) ⟨c_20, c_31, c_42, c_54, c_66⟩ (by omega)]; rfl) (hP) (hD) hS
  exact L_3 ((np - 0) + 1) 0 (Nat.lt_succ_self _) (by omega) (rfl) _ _ (hP) (hD) hS ls (lv_sub hl [1, 2, 3, 4, 5, 6, 0] rfl)
abbrev r_c_X3_write : Room := { frames := 1, cells := 0, slots := 0, locals := 26 }
set_option maxHeartbeats 4000000 in
set_option maxRecDepth 100000 in
theorem c_X3_write (l : Launch) (D : va_G) (cI cZ : ClassId) (aP : Nat) (aTD : Nat) (aTC : Nat) (aTK : Nat) (aTR : Nat) (aDY : Nat) (aCP : Nat) (aDB : Nat) (aCR : Nat) (aRK : Nat) (aLF : Nat) (fTD : Nat → Int32) (fTC : Nat → Int32) (fTK : Nat → Int32) (fTR : Nat → Int32) (fDY : Nat → Int32) (fCP : Nat → Int32) (fDB : Nat → Int32) (fCR : Nat → Int32) (fRK : Nat → Int32) (fLF : Nat → Int32) (np : Nat) (a : Int32) (b : Int32) (x : Int32) (z : Int32) (t : Int32) (hnp : np ≤ 40) : MI l yX3_write wsX3_write r_c_X3_write D cI cZ [.ref aP, .int a, .int b, .int x, .int z, .int t] [ob aP 3 [.ref aTD, .ref aTC, .ref aTK, .ref aTR, .ref aDY, .ref aCP, .ref aDB, .ref aCR, .ref aRK, .ref aLF, .int (nI np)], ar cI aTD 40 fTD, ar cI aTC 40 fTC, ar cI aTK 40 fTK, ar cI aTR 40 fTR, ar cI aDY 40 fDY, ar cZ aCP 40 fCP, ar cI aDB 40 fDB, ar cI aCR 40 fCR, ar cI aRK 40 fRK, ar cI aLF 40 fLF] (fun (r : Int32) (u : (Nat → Int32) × (Nat → Int32) × (Nat → Int32) × (Nat → Int32) × (Nat → Int32) × (Nat → Int32) × (Nat → Int32) × (Nat → Int32) × (Nat → Int32) × (Nat → Int32) × Nat) => (np < 40 ∧ r = nI np ∧ u.2.2.2.2.2.2.2.2.2.2 = np + 1 ∧ u.1 = upd fTD np a ∧ u.2.1 = upd fTC np b ∧ u.2.2.1 = upd fTK np x ∧ u.2.2.2.1 = upd fTR np z ∧ u.2.2.2.2.1 = upd fDY np t ∧ u.2.2.2.2.2.1 = upd fCP np (if told fTD fTC fTK fTR fDY a b x z t np = true then 1 else 0) ∧ u.2.2.2.2.2.2.1 = upd fDB np a ∧ u.2.2.2.2.2.2.2.1 = upd fCR np b ∧ u.2.2.2.2.2.2.2.2.1 = upd fRK np z ∧ u.2.2.2.2.2.2.2.2.2.1 = upd fLF np (if told fTD fTC fTK fTR fDY a b x z t np = true then 0 else x)) ∨ (¬ np < 40 ∧ r = -1 ∧ u.2.2.2.2.2.2.2.2.2.2 = np ∧ u.1 = fTD ∧ u.2.1 = fTC ∧ u.2.2.1 = fTK ∧ u.2.2.2.1 = fTR ∧ u.2.2.2.2.1 = fDY ∧ u.2.2.2.2.2.1 = fCP ∧ u.2.2.2.2.2.2.1 = fDB ∧ u.2.2.2.2.2.2.2.1 = fCR ∧ u.2.2.2.2.2.2.2.2.1 = fRK ∧ u.2.2.2.2.2.2.2.2.2.1 = fLF)) (fun (u : (Nat → Int32) × (Nat → Int32) × (Nat → Int32) × (Nat → Int32) × (Nat → Int32) × (Nat → Int32) × (Nat → Int32) × (Nat → Int32) × (Nat → Int32) × (Nat → Int32) × Nat) => [ob aP 3 [.ref aTD, .ref aTC, .ref aTK, .ref aTR, .ref aDY, .ref aCP, .ref aDB, .ref aCR, .ref aRK, .ref aLF, .int (nI u.2.2.2.2.2.2.2.2.2.2)], ar cI aTD 40 u.1, ar cI aTC 40 u.2.1, ar cI aTK 40 u.2.2.1, ar cI aTR 40 u.2.2.2.1, ar cI aDY 40 u.2.2.2.2.1, ar cZ aCP 40 u.2.2.2.2.2.1, ar cI aDB 40 u.2.2.2.2.2.2.1, ar cI aCR 40 u.2.2.2.2.2.2.2.1, ar cI aRK 40 u.2.2.2.2.2.2.2.2.1, ar cI aLF 40 u.2.2.2.2.2.2.2.2.2.1]) 0 0 := by
  refine MI.of (cc := cX3_write) (maxL := 8) (by decide) rfl (Nat.le_of_ble_eq_true rfl) ?_
  intro p e s m below meth c A Q hx hb hml hown hts hN hK hA ret hP hD hS ls hl
  have hown : s.vm.findClass RX3 = some m.cls := hown
  have inX3 : ∀ w ∈ wsX30, w ∈ wsX3_write := by decide +kernel
  have fl9 := hts (.fieldLink RX3 9 "AdvanceBook$Papers" "toldDebtors" "[I") (by decide +kernel)
  have fl15 := hts (.fieldLink RX3 15 "AdvanceBook$Papers" "toldCreditors" "[I") (by decide +kernel)
  have fl18 := hts (.fieldLink RX3 18 "AdvanceBook$Papers" "toldCoins" "[I") (by decide +kernel)
  have fl21 := hts (.fieldLink RX3 21 "AdvanceBook$Papers" "toldRanks" "[I") (by decide +kernel)
  have fl24 := hts (.fieldLink RX3 24 "AdvanceBook$Papers" "days" "[I") (by decide +kernel)
  have fl27 := hts (.fieldLink RX3 27 "AdvanceBook$Papers" "copies" "[Z") (by decide +kernel)
  have fl31 := hts (.fieldLink RX3 31 "AdvanceBook$Papers" "debtors" "[I") (by decide +kernel)
  have fl34 := hts (.fieldLink RX3 34 "AdvanceBook$Papers" "creditors" "[I") (by decide +kernel)
  have fl37 := hts (.fieldLink RX3 37 "AdvanceBook$Papers" "ranks" "[I") (by decide +kernel)
  have fl40 := hts (.fieldLink RX3 40 "AdvanceBook$Papers" "lefts" "[I") (by decide +kernel)
  have fl43 := hts (.fieldLink RX3 43 "AdvanceBook$Papers" "size" "I") (by decide +kernel)
  have hP : va_P D vwCl [ob aP 3 [.ref aTD, .ref aTC, .ref aTK, .ref aTR, .ref aDY, .ref aCP, .ref aDB, .ref aCR, .ref aRK, .ref aLF, .int (nI np)], ar cI aTD 40 fTD, ar cI aTC 40 fTC, ar cI aTK 40 fTK, ar cI aTR 40 fTR, ar cI aDY 40 fDY, ar cZ aCP 40 fCP, ar cI aDB 40 fDB, ar cI aCR 40 fCR, ar cI aRK 40 fRK, ar cI aLF 40 fLF] s.heap := hP
  have hD : va_D A [ob aP 3 [.ref aTD, .ref aTC, .ref aTK, .ref aTR, .ref aDY, .ref aCP, .ref aDB, .ref aCR, .ref aRK, .ref aLF, .int (nI np)], ar cI aTD 40 fTD, ar cI aTC 40 fTC, ar cI aTK 40 fTK, ar cI aTR 40 fTR, ar cI aDY 40 fDY, ar cZ aCP 40 fCP, ar cI aDB 40 fDB, ar cI aCR 40 fCR, ar cI aRK 40 fRK, ar cI aLF 40 fLF] := hD
  have hl : lv_has ls 8 [(0, .ref aP), (1, .int a), (2, .int b), (3, .int x), (4, .int z), (5, .int t)] := hl
  refine lv_aload_n hx hb dX3_write_0 rfl (lv_at hl 0 rfl) ?_
  refine va_get (D := D) (ci := 3) (v := .int (nI np)) (C := RX3) (T := TX3) (N := 11) hx hb hts inX3 hown hK hP 0 rfl rfl 10 (by decide) fl43 (fun _ h9 => h9) rfl dX3_write_1 ?_
  refine lv_istore (lv' := [(6, .int (nI np)), (0, .ref aP), (1, .int a), (2, .int b), (3, .int x), (4, .int z), (5, .int t)]) hx hb dX3_write_4 hl (by decide) rfl (fun ls hl => ?_)
  refine lv_iload hx hb dX3_write_6 (lv_at hl 0 rfl) ?_
  refine lv_bipush (v := 40) hx hb dX3_write_8 (by decide) ?_
  refine lv_icmp_lt (tgt := 15) hx hb dX3_write_10 (by decide) (fun c_10 => ?_) (fun c_10 => ?_)
  · skip
    have k_10 : np < 40 := (nI_ltI (a := np) (b := 40) (by omega) (by omega)).mp c_10
    refine lv_aload_n hx hb dX3_write_15 rfl (lv_at hl 1 rfl) ?_
    refine lv_iload_n hx hb dX3_write_16 rfl (lv_at hl 2 rfl) ?_
    refine lv_iload_n hx hb dX3_write_17 rfl (lv_at hl 3 rfl) ?_
    refine lv_iload_n hx hb dX3_write_18 rfl (lv_at hl 4 rfl) ?_
    refine lv_iload hx hb dX3_write_19 (lv_at hl 5 rfl) ?_
    refine lv_iload hx hb dX3_write_21 (lv_at hl 6 rfl) ?_
    refine m_cVi (As := [.int a, .int b, .int x, .int z, .int t]) (rest := []) (wr := [ar cZ aCP 40 fCP, ar cI aDB 40 fDB, ar cI aCR 40 fCR, ar cI aRK 40 fRK, ar cI aLF 40 fLF]) ⟨hx, hb, hml, hown, hts⟩ (c_X3_isTold l D cI cZ aP aTD aTC aTK aTR aDY aCP aDB aCR aRK aLF fTD fTC fTK fTR fDY np a b x z t (by first | assumption | omega)) (cwV 5 hts gX3_write_X3_isTold rfl rfl rfl (by decide +kernel) ⟨Nat.le_of_ble_eq_true rfl, Nat.le_of_ble_eq_true rfl⟩) hN hK hP hD hS hA [0, 1, 2, 3, 4, 5] [6, 7, 8, 9, 10] rfl rfl (by decide) (by decide) (by decide) 0 (ci := 3) rfl rfl rfl rfl hl.1 rfl (Nat.le_of_ble_eq_true rfl) dX3_write_23 ⟨Nat.le_of_ble_eq_true rfl, Nat.le_of_ble_eq_true rfl⟩ (fun r_23 u_23 H locs hq_23 hP hD hS => ?_)
    have hq_23 : r_23 = if told fTD fTC fTK fTR fDY a b x z t np = true then 1 else 0 := hq_23
    have hP : va_P D vwCl [ar cZ aCP 40 fCP, ar cI aDB 40 fDB, ar cI aCR 40 fCR, ar cI aRK 40 fRK, ar cI aLF 40 fLF, ob aP 3 [.ref aTD, .ref aTC, .ref aTK, .ref aTR, .ref aDY, .ref aCP, .ref aDB, .ref aCR, .ref aRK, .ref aLF, .int (nI np)], ar cI aTD 40 fTD, ar cI aTC 40 fTC, ar cI aTK 40 fTK, ar cI aTR 40 fTR, ar cI aDY 40 fDY] H := hP
    have hD : va_D A [ar cZ aCP 40 fCP, ar cI aDB 40 fDB, ar cI aCR 40 fCR, ar cI aRK 40 fRK, ar cI aLF 40 fLF, ob aP 3 [.ref aTD, .ref aTC, .ref aTK, .ref aTR, .ref aDY, .ref aCP, .ref aDB, .ref aCR, .ref aRK, .ref aLF, .int (nI np)], ar cI aTD 40 fTD, ar cI aTC 40 fTC, ar cI aTK 40 fTK, ar cI aTR 40 fTR, ar cI aDY 40 fDY] := hD
    have hz_23 : r_23 = 0 ∨ r_23 = 1 := (by rw [hq_23]; split <;> simp)
    refine lv_istore (lv' := [(7, .int r_23), (6, .int (nI np)), (0, .ref aP), (1, .int a), (2, .int b), (3, .int x), (4, .int z), (5, .int t)]) hx hb dX3_write_26 hl (by decide) rfl (fun ls hl => ?_)
    refine lv_aload_n hx hb dX3_write_28 rfl (lv_at hl 2 rfl) ?_
    refine va_get (D := D) (ci := 3) (v := .ref aTD) (C := RX3) (T := TX3) (N := 11) hx hb hts inX3 hown hK hP 5 rfl rfl 0 (by decide) fl9 (fun _ h9 => h9) rfl dX3_write_29 ?_
    refine lv_iload hx hb dX3_write_32 (lv_at hl 1 rfl) ?_
    refine lv_iload_n hx hb dX3_write_34 rfl (lv_at hl 3 rfl) ?_
    refine m_iast (k := np) (x := a) hx hb hK hP hD hS 6 0 rfl rfl (by omega) (by decide) dX3_write_35 (fun H locs hP hD hS => ?_)
    have hP : va_P D vwCl [ar cZ aCP 40 fCP, ar cI aDB 40 fDB, ar cI aCR 40 fCR, ar cI aRK 40 fRK, ar cI aLF 40 fLF, ob aP 3 [.ref aTD, .ref aTC, .ref aTK, .ref aTR, .ref aDY, .ref aCP, .ref aDB, .ref aCR, .ref aRK, .ref aLF, .int (nI np)], ar cI aTD 40 (upd fTD np a), ar cI aTC 40 fTC, ar cI aTK 40 fTK, ar cI aTR 40 fTR, ar cI aDY 40 fDY] H := hP
    have hD : va_D A [ar cZ aCP 40 fCP, ar cI aDB 40 fDB, ar cI aCR 40 fCR, ar cI aRK 40 fRK, ar cI aLF 40 fLF, ob aP 3 [.ref aTD, .ref aTC, .ref aTK, .ref aTR, .ref aDY, .ref aCP, .ref aDB, .ref aCR, .ref aRK, .ref aLF, .int (nI np)], ar cI aTD 40 (upd fTD np a), ar cI aTC 40 fTC, ar cI aTK 40 fTK, ar cI aTR 40 fTR, ar cI aDY 40 fDY] := hD
    refine lv_aload_n hx hb dX3_write_36 rfl (lv_at hl 2 rfl) ?_
    refine va_get (D := D) (ci := 3) (v := .ref aTC) (C := RX3) (T := TX3) (N := 11) hx hb hts inX3 hown hK hP 5 rfl rfl 1 (by decide) fl15 (fun _ h9 => h9) rfl dX3_write_37 ?_
    refine lv_iload hx hb dX3_write_40 (lv_at hl 1 rfl) ?_
    refine lv_iload_n hx hb dX3_write_42 rfl (lv_at hl 4 rfl) ?_
    refine m_iast (k := np) (x := b) hx hb hK hP hD hS 7 0 rfl rfl (by omega) (by decide) dX3_write_43 (fun H locs hP hD hS => ?_)
    have hP : va_P D vwCl [ar cZ aCP 40 fCP, ar cI aDB 40 fDB, ar cI aCR 40 fCR, ar cI aRK 40 fRK, ar cI aLF 40 fLF, ob aP 3 [.ref aTD, .ref aTC, .ref aTK, .ref aTR, .ref aDY, .ref aCP, .ref aDB, .ref aCR, .ref aRK, .ref aLF, .int (nI np)], ar cI aTD 40 (upd fTD np a), ar cI aTC 40 (upd fTC np b), ar cI aTK 40 fTK, ar cI aTR 40 fTR, ar cI aDY 40 fDY] H := hP
    have hD : va_D A [ar cZ aCP 40 fCP, ar cI aDB 40 fDB, ar cI aCR 40 fCR, ar cI aRK 40 fRK, ar cI aLF 40 fLF, ob aP 3 [.ref aTD, .ref aTC, .ref aTK, .ref aTR, .ref aDY, .ref aCP, .ref aDB, .ref aCR, .ref aRK, .ref aLF, .int (nI np)], ar cI aTD 40 (upd fTD np a), ar cI aTC 40 (upd fTC np b), ar cI aTK 40 fTK, ar cI aTR 40 fTR, ar cI aDY 40 fDY] := hD
    refine lv_aload_n hx hb dX3_write_44 rfl (lv_at hl 2 rfl) ?_
    refine va_get (D := D) (ci := 3) (v := .ref aTK) (C := RX3) (T := TX3) (N := 11) hx hb hts inX3 hown hK hP 5 rfl rfl 2 (by decide) fl18 (fun _ h9 => h9) rfl dX3_write_45 ?_
    refine lv_iload hx hb dX3_write_48 (lv_at hl 1 rfl) ?_
    refine lv_iload_n hx hb dX3_write_50 rfl (lv_at hl 5 rfl) ?_
    refine m_iast (k := np) (x := x) hx hb hK hP hD hS 8 0 rfl rfl (by omega) (by decide) dX3_write_51 (fun H locs hP hD hS => ?_)
    have hP : va_P D vwCl [ar cZ aCP 40 fCP, ar cI aDB 40 fDB, ar cI aCR 40 fCR, ar cI aRK 40 fRK, ar cI aLF 40 fLF, ob aP 3 [.ref aTD, .ref aTC, .ref aTK, .ref aTR, .ref aDY, .ref aCP, .ref aDB, .ref aCR, .ref aRK, .ref aLF, .int (nI np)], ar cI aTD 40 (upd fTD np a), ar cI aTC 40 (upd fTC np b), ar cI aTK 40 (upd fTK np x), ar cI aTR 40 fTR, ar cI aDY 40 fDY] H := hP
    have hD : va_D A [ar cZ aCP 40 fCP, ar cI aDB 40 fDB, ar cI aCR 40 fCR, ar cI aRK 40 fRK, ar cI aLF 40 fLF, ob aP 3 [.ref aTD, .ref aTC, .ref aTK, .ref aTR, .ref aDY, .ref aCP, .ref aDB, .ref aCR, .ref aRK, .ref aLF, .int (nI np)], ar cI aTD 40 (upd fTD np a), ar cI aTC 40 (upd fTC np b), ar cI aTK 40 (upd fTK np x), ar cI aTR 40 fTR, ar cI aDY 40 fDY] := hD
    refine lv_aload_n hx hb dX3_write_52 rfl (lv_at hl 2 rfl) ?_
    refine va_get (D := D) (ci := 3) (v := .ref aTR) (C := RX3) (T := TX3) (N := 11) hx hb hts inX3 hown hK hP 5 rfl rfl 3 (by decide) fl21 (fun _ h9 => h9) rfl dX3_write_53 ?_
    refine lv_iload hx hb dX3_write_56 (lv_at hl 1 rfl) ?_
    refine lv_iload hx hb dX3_write_58 (lv_at hl 6 rfl) ?_
    refine m_iast (k := np) (x := z) hx hb hK hP hD hS 9 0 rfl rfl (by omega) (by decide) dX3_write_60 (fun H locs hP hD hS => ?_)
    have hP : va_P D vwCl [ar cZ aCP 40 fCP, ar cI aDB 40 fDB, ar cI aCR 40 fCR, ar cI aRK 40 fRK, ar cI aLF 40 fLF, ob aP 3 [.ref aTD, .ref aTC, .ref aTK, .ref aTR, .ref aDY, .ref aCP, .ref aDB, .ref aCR, .ref aRK, .ref aLF, .int (nI np)], ar cI aTD 40 (upd fTD np a), ar cI aTC 40 (upd fTC np b), ar cI aTK 40 (upd fTK np x), ar cI aTR 40 (upd fTR np z), ar cI aDY 40 fDY] H := hP
    have hD : va_D A [ar cZ aCP 40 fCP, ar cI aDB 40 fDB, ar cI aCR 40 fCR, ar cI aRK 40 fRK, ar cI aLF 40 fLF, ob aP 3 [.ref aTD, .ref aTC, .ref aTK, .ref aTR, .ref aDY, .ref aCP, .ref aDB, .ref aCR, .ref aRK, .ref aLF, .int (nI np)], ar cI aTD 40 (upd fTD np a), ar cI aTC 40 (upd fTC np b), ar cI aTK 40 (upd fTK np x), ar cI aTR 40 (upd fTR np z), ar cI aDY 40 fDY] := hD
    refine lv_aload_n hx hb dX3_write_61 rfl (lv_at hl 2 rfl) ?_
    refine va_get (D := D) (ci := 3) (v := .ref aDY) (C := RX3) (T := TX3) (N := 11) hx hb hts inX3 hown hK hP 5 rfl rfl 4 (by decide) fl24 (fun _ h9 => h9) rfl dX3_write_62 ?_
    refine lv_iload hx hb dX3_write_65 (lv_at hl 1 rfl) ?_
    refine lv_iload hx hb dX3_write_67 (lv_at hl 7 rfl) ?_
    refine m_iast (k := np) (x := t) hx hb hK hP hD hS 10 0 rfl rfl (by omega) (by decide) dX3_write_69 (fun H locs hP hD hS => ?_)
    have hP : va_P D vwCl [ar cZ aCP 40 fCP, ar cI aDB 40 fDB, ar cI aCR 40 fCR, ar cI aRK 40 fRK, ar cI aLF 40 fLF, ob aP 3 [.ref aTD, .ref aTC, .ref aTK, .ref aTR, .ref aDY, .ref aCP, .ref aDB, .ref aCR, .ref aRK, .ref aLF, .int (nI np)], ar cI aTD 40 (upd fTD np a), ar cI aTC 40 (upd fTC np b), ar cI aTK 40 (upd fTK np x), ar cI aTR 40 (upd fTR np z), ar cI aDY 40 (upd fDY np t)] H := hP
    have hD : va_D A [ar cZ aCP 40 fCP, ar cI aDB 40 fDB, ar cI aCR 40 fCR, ar cI aRK 40 fRK, ar cI aLF 40 fLF, ob aP 3 [.ref aTD, .ref aTC, .ref aTK, .ref aTR, .ref aDY, .ref aCP, .ref aDB, .ref aCR, .ref aRK, .ref aLF, .int (nI np)], ar cI aTD 40 (upd fTD np a), ar cI aTC 40 (upd fTC np b), ar cI aTK 40 (upd fTK np x), ar cI aTR 40 (upd fTR np z), ar cI aDY 40 (upd fDY np t)] := hD
    refine lv_aload_n hx hb dX3_write_70 rfl (lv_at hl 2 rfl) ?_
    refine va_get (D := D) (ci := 3) (v := .ref aCP) (C := RX3) (T := TX3) (N := 11) hx hb hts inX3 hown hK hP 5 rfl rfl 5 (by decide) fl27 (fun _ h9 => h9) rfl dX3_write_71 ?_
    refine lv_iload hx hb dX3_write_74 (lv_at hl 1 rfl) ?_
    refine lv_iload hx hb dX3_write_76 (lv_at hl 0 rfl) ?_
    refine m_zast (k := np) (x := r_23) hx hb hK hP hD hS 0 1 rfl rfl (by assumption) (by omega) (by decide) dX3_write_78 (fun H locs hP hD hS => ?_)
    have hP : va_P D vwCl [ar cZ aCP 40 (upd fCP np r_23), ar cI aDB 40 fDB, ar cI aCR 40 fCR, ar cI aRK 40 fRK, ar cI aLF 40 fLF, ob aP 3 [.ref aTD, .ref aTC, .ref aTK, .ref aTR, .ref aDY, .ref aCP, .ref aDB, .ref aCR, .ref aRK, .ref aLF, .int (nI np)], ar cI aTD 40 (upd fTD np a), ar cI aTC 40 (upd fTC np b), ar cI aTK 40 (upd fTK np x), ar cI aTR 40 (upd fTR np z), ar cI aDY 40 (upd fDY np t)] H := hP
    have hD : va_D A [ar cZ aCP 40 (upd fCP np r_23), ar cI aDB 40 fDB, ar cI aCR 40 fCR, ar cI aRK 40 fRK, ar cI aLF 40 fLF, ob aP 3 [.ref aTD, .ref aTC, .ref aTK, .ref aTR, .ref aDY, .ref aCP, .ref aDB, .ref aCR, .ref aRK, .ref aLF, .int (nI np)], ar cI aTD 40 (upd fTD np a), ar cI aTC 40 (upd fTC np b), ar cI aTK 40 (upd fTK np x), ar cI aTR 40 (upd fTR np z), ar cI aDY 40 (upd fDY np t)] := hD
    refine lv_aload_n hx hb dX3_write_79 rfl (lv_at hl 2 rfl) ?_
    refine va_get (D := D) (ci := 3) (v := .ref aDB) (C := RX3) (T := TX3) (N := 11) hx hb hts inX3 hown hK hP 5 rfl rfl 6 (by decide) fl31 (fun _ h9 => h9) rfl dX3_write_80 ?_
    refine lv_iload hx hb dX3_write_83 (lv_at hl 1 rfl) ?_
    refine lv_iload_n hx hb dX3_write_85 rfl (lv_at hl 3 rfl) ?_
    refine m_iast (k := np) (x := a) hx hb hK hP hD hS 1 0 rfl rfl (by omega) (by decide) dX3_write_86 (fun H locs hP hD hS => ?_)
    have hP : va_P D vwCl [ar cZ aCP 40 (upd fCP np r_23), ar cI aDB 40 (upd fDB np a), ar cI aCR 40 fCR, ar cI aRK 40 fRK, ar cI aLF 40 fLF, ob aP 3 [.ref aTD, .ref aTC, .ref aTK, .ref aTR, .ref aDY, .ref aCP, .ref aDB, .ref aCR, .ref aRK, .ref aLF, .int (nI np)], ar cI aTD 40 (upd fTD np a), ar cI aTC 40 (upd fTC np b), ar cI aTK 40 (upd fTK np x), ar cI aTR 40 (upd fTR np z), ar cI aDY 40 (upd fDY np t)] H := hP
    have hD : va_D A [ar cZ aCP 40 (upd fCP np r_23), ar cI aDB 40 (upd fDB np a), ar cI aCR 40 fCR, ar cI aRK 40 fRK, ar cI aLF 40 fLF, ob aP 3 [.ref aTD, .ref aTC, .ref aTK, .ref aTR, .ref aDY, .ref aCP, .ref aDB, .ref aCR, .ref aRK, .ref aLF, .int (nI np)], ar cI aTD 40 (upd fTD np a), ar cI aTC 40 (upd fTC np b), ar cI aTK 40 (upd fTK np x), ar cI aTR 40 (upd fTR np z), ar cI aDY 40 (upd fDY np t)] := hD
    refine lv_aload_n hx hb dX3_write_87 rfl (lv_at hl 2 rfl) ?_
    refine va_get (D := D) (ci := 3) (v := .ref aCR) (C := RX3) (T := TX3) (N := 11) hx hb hts inX3 hown hK hP 5 rfl rfl 7 (by decide) fl34 (fun _ h9 => h9) rfl dX3_write_88 ?_
    refine lv_iload hx hb dX3_write_91 (lv_at hl 1 rfl) ?_
    refine lv_iload_n hx hb dX3_write_93 rfl (lv_at hl 4 rfl) ?_
    refine m_iast (k := np) (x := b) hx hb hK hP hD hS 2 0 rfl rfl (by omega) (by decide) dX3_write_94 (fun H locs hP hD hS => ?_)
    have hP : va_P D vwCl [ar cZ aCP 40 (upd fCP np r_23), ar cI aDB 40 (upd fDB np a), ar cI aCR 40 (upd fCR np b), ar cI aRK 40 fRK, ar cI aLF 40 fLF, ob aP 3 [.ref aTD, .ref aTC, .ref aTK, .ref aTR, .ref aDY, .ref aCP, .ref aDB, .ref aCR, .ref aRK, .ref aLF, .int (nI np)], ar cI aTD 40 (upd fTD np a), ar cI aTC 40 (upd fTC np b), ar cI aTK 40 (upd fTK np x), ar cI aTR 40 (upd fTR np z), ar cI aDY 40 (upd fDY np t)] H := hP
    have hD : va_D A [ar cZ aCP 40 (upd fCP np r_23), ar cI aDB 40 (upd fDB np a), ar cI aCR 40 (upd fCR np b), ar cI aRK 40 fRK, ar cI aLF 40 fLF, ob aP 3 [.ref aTD, .ref aTC, .ref aTK, .ref aTR, .ref aDY, .ref aCP, .ref aDB, .ref aCR, .ref aRK, .ref aLF, .int (nI np)], ar cI aTD 40 (upd fTD np a), ar cI aTC 40 (upd fTC np b), ar cI aTK 40 (upd fTK np x), ar cI aTR 40 (upd fTR np z), ar cI aDY 40 (upd fDY np t)] := hD
    refine lv_aload_n hx hb dX3_write_95 rfl (lv_at hl 2 rfl) ?_
    refine va_get (D := D) (ci := 3) (v := .ref aRK) (C := RX3) (T := TX3) (N := 11) hx hb hts inX3 hown hK hP 5 rfl rfl 8 (by decide) fl37 (fun _ h9 => h9) rfl dX3_write_96 ?_
    refine lv_iload hx hb dX3_write_99 (lv_at hl 1 rfl) ?_
    refine lv_iload hx hb dX3_write_101 (lv_at hl 6 rfl) ?_
    refine m_iast (k := np) (x := z) hx hb hK hP hD hS 3 0 rfl rfl (by omega) (by decide) dX3_write_103 (fun H locs hP hD hS => ?_)
    have hP : va_P D vwCl [ar cZ aCP 40 (upd fCP np r_23), ar cI aDB 40 (upd fDB np a), ar cI aCR 40 (upd fCR np b), ar cI aRK 40 (upd fRK np z), ar cI aLF 40 fLF, ob aP 3 [.ref aTD, .ref aTC, .ref aTK, .ref aTR, .ref aDY, .ref aCP, .ref aDB, .ref aCR, .ref aRK, .ref aLF, .int (nI np)], ar cI aTD 40 (upd fTD np a), ar cI aTC 40 (upd fTC np b), ar cI aTK 40 (upd fTK np x), ar cI aTR 40 (upd fTR np z), ar cI aDY 40 (upd fDY np t)] H := hP
    have hD : va_D A [ar cZ aCP 40 (upd fCP np r_23), ar cI aDB 40 (upd fDB np a), ar cI aCR 40 (upd fCR np b), ar cI aRK 40 (upd fRK np z), ar cI aLF 40 fLF, ob aP 3 [.ref aTD, .ref aTC, .ref aTK, .ref aTR, .ref aDY, .ref aCP, .ref aDB, .ref aCR, .ref aRK, .ref aLF, .int (nI np)], ar cI aTD 40 (upd fTD np a), ar cI aTC 40 (upd fTC np b), ar cI aTK 40 (upd fTK np x), ar cI aTR 40 (upd fTR np z), ar cI aDY 40 (upd fDY np t)] := hD
    refine lv_aload_n hx hb dX3_write_104 rfl (lv_at hl 2 rfl) ?_
    refine va_get (D := D) (ci := 3) (v := .ref aLF) (C := RX3) (T := TX3) (N := 11) hx hb hts inX3 hown hK hP 5 rfl rfl 9 (by decide) fl40 (fun _ h9 => h9) rfl dX3_write_105 ?_
    refine lv_iload hx hb dX3_write_108 (lv_at hl 1 rfl) ?_
    refine lv_iload hx hb dX3_write_110 (lv_at hl 0 rfl) ?_
    refine lv_if_eq (tgt := 119) hx hb dX3_write_112 (by decide) (fun c_112 => ?_) (fun c_112 => ?_)
    · skip
      refine lv_iload_n hx hb dX3_write_119 rfl (lv_at hl 5 rfl) ?_
      refine m_iast (k := np) (x := x) hx hb hK hP hD hS 4 0 rfl rfl (by omega) (by decide) dX3_write_120 (fun H locs hP hD hS => ?_)
      have hP : va_P D vwCl [ar cZ aCP 40 (upd fCP np r_23), ar cI aDB 40 (upd fDB np a), ar cI aCR 40 (upd fCR np b), ar cI aRK 40 (upd fRK np z), ar cI aLF 40 (upd fLF np x), ob aP 3 [.ref aTD, .ref aTC, .ref aTK, .ref aTR, .ref aDY, .ref aCP, .ref aDB, .ref aCR, .ref aRK, .ref aLF, .int (nI np)], ar cI aTD 40 (upd fTD np a), ar cI aTC 40 (upd fTC np b), ar cI aTK 40 (upd fTK np x), ar cI aTR 40 (upd fTR np z), ar cI aDY 40 (upd fDY np t)] H := hP
      have hD : va_D A [ar cZ aCP 40 (upd fCP np r_23), ar cI aDB 40 (upd fDB np a), ar cI aCR 40 (upd fCR np b), ar cI aRK 40 (upd fRK np z), ar cI aLF 40 (upd fLF np x), ob aP 3 [.ref aTD, .ref aTC, .ref aTK, .ref aTR, .ref aDY, .ref aCP, .ref aDB, .ref aCR, .ref aRK, .ref aLF, .int (nI np)], ar cI aTD 40 (upd fTD np a), ar cI aTC 40 (upd fTC np b), ar cI aTK 40 (upd fTK np x), ar cI aTR 40 (upd fTR np z), ar cI aDY 40 (upd fDY np t)] := hD
      refine lv_aload_n hx hb dX3_write_121 rfl (lv_at hl 2 rfl) ?_
      refine lv_dup hx hb dX3_write_122 rfl ?_
      refine va_get (D := D) (ci := 3) (v := .int (nI np)) (C := RX3) (T := TX3) (N := 11) hx hb hts inX3 hown hK hP 5 rfl rfl 10 (by decide) fl43 (fun _ h9 => h9) rfl dX3_write_123 ?_
      refine lv_iconst (v := 1) hx hb dX3_write_126 (by decide) ?_
      refine m_iaddN (a := np) (b := 1) hx hb dX3_write_127 ?_
      refine va_put (D := D) (ci := 3) (v := .int (nI (np + 1))) (ty := .int) (C := RX3) (T := TX3) (N := 11) hx hb hts inX3 tyX3 tyX3_ok nmX3 hown hK hP hD hS 5 rfl rfl 10 (by decide) fl43 (fun _ h9 => h9) rfl (by decide +kernel) (rfl) (rfl) (Nat.le_of_ble_eq_true rfl) dX3_write_128 (fun H locs hP hD hS => ?_)
      have hP : va_P D vwCl [ar cZ aCP 40 (upd fCP np r_23), ar cI aDB 40 (upd fDB np a), ar cI aCR 40 (upd fCR np b), ar cI aRK 40 (upd fRK np z), ar cI aLF 40 (upd fLF np x), ob aP 3 [.ref aTD, .ref aTC, .ref aTK, .ref aTR, .ref aDY, .ref aCP, .ref aDB, .ref aCR, .ref aRK, .ref aLF, .int (nI (np + 1))], ar cI aTD 40 (upd fTD np a), ar cI aTC 40 (upd fTC np b), ar cI aTK 40 (upd fTK np x), ar cI aTR 40 (upd fTR np z), ar cI aDY 40 (upd fDY np t)] H := hP
      have hD : va_D A [ar cZ aCP 40 (upd fCP np r_23), ar cI aDB 40 (upd fDB np a), ar cI aCR 40 (upd fCR np b), ar cI aRK 40 (upd fRK np z), ar cI aLF 40 (upd fLF np x), ob aP 3 [.ref aTD, .ref aTC, .ref aTK, .ref aTR, .ref aDY, .ref aCP, .ref aDB, .ref aCR, .ref aRK, .ref aLF, .int (nI (np + 1))], ar cI aTD 40 (upd fTD np a), ar cI aTC 40 (upd fTC np b), ar cI aTK 40 (upd fTK np x), ar cI aTR 40 (upd fTR np z), ar cI aDY 40 (upd fDY np t)] := hD
      refine lv_iload hx hb dX3_write_131 (lv_at hl 1 rfl) ?_
      exact ret (nI np) ((upd fTD np a), (upd fTC np b), (upd fTK np x), (upd fTR np z), (upd fDY np t), (upd fCP np r_23), (upd fDB np a), (upd fCR np b), (upd fRK np z), (upd fLF np x), (np + 1)) _ _ _ _ dX3_write_133 (Or.inl ⟨k_10, rfl, rfl, rfl, rfl, rfl, rfl, rfl, by rw [hq_23], rfl, rfl, rfl, by congr 1; first | (rw [if_pos]; grind) | (rw [if_neg]; grind)⟩) (hP.sub [5, 6, 7, 8, 9, 10, 0, 1, 2, 3, 4] rfl) (hD.sub [5, 6, 7, 8, 9, 10, 0, 1, 2, 3, 4] (by decide) rfl) hS
    · skip
      refine lv_iconst (v := 0) hx hb dX3_write_115 (by decide) ?_
      refine lv_goto (tgt := 120) hx hb dX3_write_116 (by decide) ?_
      refine m_iast (k := np) (x := 0) hx hb hK hP hD hS 4 0 rfl rfl (by omega) (by decide) dX3_write_120 (fun H locs hP hD hS => ?_)
      have hP : va_P D vwCl [ar cZ aCP 40 (upd fCP np r_23), ar cI aDB 40 (upd fDB np a), ar cI aCR 40 (upd fCR np b), ar cI aRK 40 (upd fRK np z), ar cI aLF 40 (upd fLF np 0), ob aP 3 [.ref aTD, .ref aTC, .ref aTK, .ref aTR, .ref aDY, .ref aCP, .ref aDB, .ref aCR, .ref aRK, .ref aLF, .int (nI np)], ar cI aTD 40 (upd fTD np a), ar cI aTC 40 (upd fTC np b), ar cI aTK 40 (upd fTK np x), ar cI aTR 40 (upd fTR np z), ar cI aDY 40 (upd fDY np t)] H := hP
      have hD : va_D A [ar cZ aCP 40 (upd fCP np r_23), ar cI aDB 40 (upd fDB np a), ar cI aCR 40 (upd fCR np b), ar cI aRK 40 (upd fRK np z), ar cI aLF 40 (upd fLF np 0), ob aP 3 [.ref aTD, .ref aTC, .ref aTK, .ref aTR, .ref aDY, .ref aCP, .ref aDB, .ref aCR, .ref aRK, .ref aLF, .int (nI np)], ar cI aTD 40 (upd fTD np a), ar cI aTC 40 (upd fTC np b), ar cI aTK 40 (upd fTK np x), ar cI aTR 40 (upd fTR np z), ar cI aDY 40 (upd fDY np t)] := hD
      refine lv_aload_n hx hb dX3_write_121 rfl (lv_at hl 2 rfl) ?_
      refine lv_dup hx hb dX3_write_122 rfl ?_
      refine va_get (D := D) (ci := 3) (v := .int (nI np)) (C := RX3) (T := TX3) (N := 11) hx hb hts inX3 hown hK hP 5 rfl rfl 10 (by decide) fl43 (fun _ h9 => h9) rfl dX3_write_123 ?_
      refine lv_iconst (v := 1) hx hb dX3_write_126 (by decide) ?_
      refine m_iaddN (a := np) (b := 1) hx hb dX3_write_127 ?_
      refine va_put (D := D) (ci := 3) (v := .int (nI (np + 1))) (ty := .int) (C := RX3) (T := TX3) (N := 11) hx hb hts inX3 tyX3 tyX3_ok nmX3 hown hK hP hD hS 5 rfl rfl 10 (by decide) fl43 (fun _ h9 => h9) rfl (by decide +kernel) (rfl) (rfl) (Nat.le_of_ble_eq_true rfl) dX3_write_128 (fun H locs hP hD hS => ?_)
      have hP : va_P D vwCl [ar cZ aCP 40 (upd fCP np r_23), ar cI aDB 40 (upd fDB np a), ar cI aCR 40 (upd fCR np b), ar cI aRK 40 (upd fRK np z), ar cI aLF 40 (upd fLF np 0), ob aP 3 [.ref aTD, .ref aTC, .ref aTK, .ref aTR, .ref aDY, .ref aCP, .ref aDB, .ref aCR, .ref aRK, .ref aLF, .int (nI (np + 1))], ar cI aTD 40 (upd fTD np a), ar cI aTC 40 (upd fTC np b), ar cI aTK 40 (upd fTK np x), ar cI aTR 40 (upd fTR np z), ar cI aDY 40 (upd fDY np t)] H := hP
      have hD : va_D A [ar cZ aCP 40 (upd fCP np r_23), ar cI aDB 40 (upd fDB np a), ar cI aCR 40 (upd fCR np b), ar cI aRK 40 (upd fRK np z), ar cI aLF 40 (upd fLF np 0), ob aP 3 [.ref aTD, .ref aTC, .ref aTK, .ref aTR, .ref aDY, .ref aCP, .ref aDB, .ref aCR, .ref aRK, .ref aLF, .int (nI (np + 1))], ar cI aTD 40 (upd fTD np a), ar cI aTC 40 (upd fTC np b), ar cI aTK 40 (upd fTK np x), ar cI aTR 40 (upd fTR np z), ar cI aDY 40 (upd fDY np t)] := hD
      refine lv_iload hx hb dX3_write_131 (lv_at hl 1 rfl) ?_
      exact ret (nI np) ((upd fTD np a), (upd fTC np b), (upd fTK np x), (upd fTR np z), (upd fDY np t), (upd fCP np r_23), (upd fDB np a), (upd fCR np b), (upd fRK np z), (upd fLF np 0), (np + 1)) _ _ _ _ dX3_write_133 (Or.inl ⟨k_10, rfl, rfl, rfl, rfl, rfl, rfl, rfl, by rw [hq_23], rfl, rfl, rfl, by congr 1; first | (rw [if_pos]; grind) | (rw [if_neg]; grind)⟩) (hP.sub [5, 6, 7, 8, 9, 10, 0, 1, 2, 3, 4] rfl) (hD.sub [5, 6, 7, 8, 9, 10, 0, 1, 2, 3, 4] (by decide) rfl) hS
  · skip
    have k_10 : ¬ np < 40 := fun h9 => c_10 ((nI_ltI (a := np) (b := 40) (by omega) (by omega)).mpr h9)
    refine lv_iconst (v := (-1)) hx hb dX3_write_13 (by decide) ?_
    exact ret (-1) (fTD, fTC, fTK, fTR, fDY, fCP, fDB, fCR, fRK, fLF, np) _ _ _ _ dX3_write_14 (Or.inr ⟨k_10, rfl, rfl, rfl, rfl, rfl, rfl, rfl, rfl, rfl, rfl, rfl, rfl⟩) (hP) (hD) hS
abbrev r_c_X3_tell : Room := { frames := 0, cells := 0, slots := 0, locals := 0 }
set_option maxHeartbeats 4000000 in
set_option maxRecDepth 100000 in
theorem c_X3_tell (l : Launch) (D : va_G) (cI cZ : ClassId) (aP : Nat) (aTD : Nat) (aTC : Nat) (aTK : Nat) (aTR : Nat) (aDY : Nat) (aCP : Nat) (aDB : Nat) (aCR : Nat) (aRK : Nat) (aLF : Nat) (fDB : Nat → Int32) (fCR : Nat → Int32) (fTK : Nat → Int32) (fRK : Nat → Int32) (fLF : Nat → Int32) (fDY : Nat → Int32) (fCP : Nat → Int32) (np : Nat) (q : Nat) (x : Int32) (hq : q < 40) : MI l yX3_tell wsX3_tell r_c_X3_tell D cI cZ [.ref aP, .int (nI q), .int x] [ob aP 3 [.ref aTD, .ref aTC, .ref aTK, .ref aTR, .ref aDY, .ref aCP, .ref aDB, .ref aCR, .ref aRK, .ref aLF, .int (nI np)], ar cI aDB 40 fDB, ar cI aCR 40 fCR, ar cI aTK 40 fTK, ar cI aRK 40 fRK, ar cI aLF 40 fLF, ar cI aDY 40 fDY, ar cZ aCP 40 fCP] (fun (r : Int32) (u : Unit) => r = tellS fDB fCR fTK fRK fLF fDY fCP q x) (fun (u : Unit) => [ob aP 3 [.ref aTD, .ref aTC, .ref aTK, .ref aTR, .ref aDY, .ref aCP, .ref aDB, .ref aCR, .ref aRK, .ref aLF, .int (nI np)], ar cI aDB 40 fDB, ar cI aCR 40 fCR, ar cI aTK 40 fTK, ar cI aRK 40 fRK, ar cI aLF 40 fLF, ar cI aDY 40 fDY, ar cZ aCP 40 fCP]) 0 0 := by
  refine MI.of (cc := cX3_tell) (maxL := 3) (by decide) rfl (Nat.le_of_ble_eq_true rfl) ?_
  intro p e s m below meth c A Q hx hb hml hown hts hN hK hA ret hP hD hS ls hl
  have hown : s.vm.findClass RX3 = some m.cls := hown
  have inX3 : ∀ w ∈ wsX30, w ∈ wsX3_tell := by decide +kernel
  have fl18 := hts (.fieldLink RX3 18 "AdvanceBook$Papers" "toldCoins" "[I") (by decide +kernel)
  have fl24 := hts (.fieldLink RX3 24 "AdvanceBook$Papers" "days" "[I") (by decide +kernel)
  have fl27 := hts (.fieldLink RX3 27 "AdvanceBook$Papers" "copies" "[Z") (by decide +kernel)
  have fl31 := hts (.fieldLink RX3 31 "AdvanceBook$Papers" "debtors" "[I") (by decide +kernel)
  have fl34 := hts (.fieldLink RX3 34 "AdvanceBook$Papers" "creditors" "[I") (by decide +kernel)
  have fl37 := hts (.fieldLink RX3 37 "AdvanceBook$Papers" "ranks" "[I") (by decide +kernel)
  have fl40 := hts (.fieldLink RX3 40 "AdvanceBook$Papers" "lefts" "[I") (by decide +kernel)
  have hP : va_P D vwCl [ob aP 3 [.ref aTD, .ref aTC, .ref aTK, .ref aTR, .ref aDY, .ref aCP, .ref aDB, .ref aCR, .ref aRK, .ref aLF, .int (nI np)], ar cI aDB 40 fDB, ar cI aCR 40 fCR, ar cI aTK 40 fTK, ar cI aRK 40 fRK, ar cI aLF 40 fLF, ar cI aDY 40 fDY, ar cZ aCP 40 fCP] s.heap := hP
  have hD : va_D A [ob aP 3 [.ref aTD, .ref aTC, .ref aTK, .ref aTR, .ref aDY, .ref aCP, .ref aDB, .ref aCR, .ref aRK, .ref aLF, .int (nI np)], ar cI aDB 40 fDB, ar cI aCR 40 fCR, ar cI aTK 40 fTK, ar cI aRK 40 fRK, ar cI aLF 40 fLF, ar cI aDY 40 fDY, ar cZ aCP 40 fCP] := hD
  have hl : lv_has ls 3 [(0, .ref aP), (1, .int (nI q)), (2, .int x)] := hl
  refine lv_iload_n hx hb dX3_tell_0 rfl (lv_at hl 2 rfl) ?_
  by_cases e1_0 : x = 0
  · refine lv_tableIn (tgt := 40) hx hb dX3_tell_1 (by rw [e1_0]; decide) (by rw [e1_0]; decide) (by rw [e1_0]; rfl) (by decide) ?_
    refine lv_aload_n hx hb dX3_tell_40 rfl (lv_at hl 0 rfl) ?_
    refine va_get (D := D) (ci := 3) (v := .ref aDB) (C := RX3) (T := TX3) (N := 11) hx hb hts inX3 hown hK hP 0 rfl rfl 6 (by decide) fl31 (fun _ h9 => h9) rfl dX3_tell_41 ?_
    refine lv_iload_n hx hb dX3_tell_44 rfl (lv_at hl 1 rfl) ?_
    refine m_iald (k := q) hx hb hK hP 1 0 rfl rfl (by omega) (by decide) dX3_tell_45 ?_
    exact ret (fDB q) () _ _ _ _ dX3_tell_46 (by simp [tellS, *]) (hP) (hD) hS
  by_cases e1_1 : x = 1
  · refine lv_tableIn (tgt := 47) hx hb dX3_tell_1 (by rw [e1_1]; decide) (by rw [e1_1]; decide) (by rw [e1_1]; rfl) (by decide) ?_
    refine lv_aload_n hx hb dX3_tell_47 rfl (lv_at hl 0 rfl) ?_
    refine va_get (D := D) (ci := 3) (v := .ref aCR) (C := RX3) (T := TX3) (N := 11) hx hb hts inX3 hown hK hP 0 rfl rfl 7 (by decide) fl34 (fun _ h9 => h9) rfl dX3_tell_48 ?_
    refine lv_iload_n hx hb dX3_tell_51 rfl (lv_at hl 1 rfl) ?_
    refine m_iald (k := q) hx hb hK hP 2 0 rfl rfl (by omega) (by decide) dX3_tell_52 ?_
    exact ret (fCR q) () _ _ _ _ dX3_tell_53 (by simp [tellS, *]) (hP) (hD) hS
  by_cases e1_2 : x = 2
  · refine lv_tableIn (tgt := 54) hx hb dX3_tell_1 (by rw [e1_2]; decide) (by rw [e1_2]; decide) (by rw [e1_2]; rfl) (by decide) ?_
    refine lv_aload_n hx hb dX3_tell_54 rfl (lv_at hl 0 rfl) ?_
    refine va_get (D := D) (ci := 3) (v := .ref aTK) (C := RX3) (T := TX3) (N := 11) hx hb hts inX3 hown hK hP 0 rfl rfl 2 (by decide) fl18 (fun _ h9 => h9) rfl dX3_tell_55 ?_
    refine lv_iload_n hx hb dX3_tell_58 rfl (lv_at hl 1 rfl) ?_
    refine m_iald (k := q) hx hb hK hP 3 0 rfl rfl (by omega) (by decide) dX3_tell_59 ?_
    exact ret (fTK q) () _ _ _ _ dX3_tell_60 (by simp [tellS, *]) (hP) (hD) hS
  by_cases e1_3 : x = 3
  · refine lv_tableIn (tgt := 61) hx hb dX3_tell_1 (by rw [e1_3]; decide) (by rw [e1_3]; decide) (by rw [e1_3]; rfl) (by decide) ?_
    refine lv_aload_n hx hb dX3_tell_61 rfl (lv_at hl 0 rfl) ?_
    refine va_get (D := D) (ci := 3) (v := .ref aRK) (C := RX3) (T := TX3) (N := 11) hx hb hts inX3 hown hK hP 0 rfl rfl 8 (by decide) fl37 (fun _ h9 => h9) rfl dX3_tell_62 ?_
    refine lv_iload_n hx hb dX3_tell_65 rfl (lv_at hl 1 rfl) ?_
    refine m_iald (k := q) hx hb hK hP 4 0 rfl rfl (by omega) (by decide) dX3_tell_66 ?_
    exact ret (fRK q) () _ _ _ _ dX3_tell_67 (by simp [tellS, *]) (hP) (hD) hS
  by_cases e1_4 : x = 4
  · refine lv_tableIn (tgt := 68) hx hb dX3_tell_1 (by rw [e1_4]; decide) (by rw [e1_4]; decide) (by rw [e1_4]; rfl) (by decide) ?_
    refine lv_aload_n hx hb dX3_tell_68 rfl (lv_at hl 0 rfl) ?_
    refine va_get (D := D) (ci := 3) (v := .ref aLF) (C := RX3) (T := TX3) (N := 11) hx hb hts inX3 hown hK hP 0 rfl rfl 9 (by decide) fl40 (fun _ h9 => h9) rfl dX3_tell_69 ?_
    refine lv_iload_n hx hb dX3_tell_72 rfl (lv_at hl 1 rfl) ?_
    refine m_iald (k := q) hx hb hK hP 5 0 rfl rfl (by omega) (by decide) dX3_tell_73 ?_
    exact ret (fLF q) () _ _ _ _ dX3_tell_74 (by simp [tellS, *]) (hP) (hD) hS
  by_cases e1_5 : x = 5
  · refine lv_tableIn (tgt := 75) hx hb dX3_tell_1 (by rw [e1_5]; decide) (by rw [e1_5]; decide) (by rw [e1_5]; rfl) (by decide) ?_
    refine lv_aload_n hx hb dX3_tell_75 rfl (lv_at hl 0 rfl) ?_
    refine va_get (D := D) (ci := 3) (v := .ref aDY) (C := RX3) (T := TX3) (N := 11) hx hb hts inX3 hown hK hP 0 rfl rfl 4 (by decide) fl24 (fun _ h9 => h9) rfl dX3_tell_76 ?_
    refine lv_iload_n hx hb dX3_tell_79 rfl (lv_at hl 1 rfl) ?_
    refine m_iald (k := q) hx hb hK hP 6 0 rfl rfl (by omega) (by decide) dX3_tell_80 ?_
    exact ret (fDY q) () _ _ _ _ dX3_tell_81 (by simp [tellS, *]) (hP) (hD) hS
  refine lv_tableOut (tgt := 82) hx hb dX3_tell_1 (by have t0 := sw_ne (z := 0) (by decide) e1_0; have t1 := sw_ne (z := 1) (by decide) e1_1; have t2 := sw_ne (z := 2) (by decide) e1_2; have t3 := sw_ne (z := 3) (by decide) e1_3; have t4 := sw_ne (z := 4) (by decide) e1_4; have t5 := sw_ne (z := 5) (by decide) e1_5; omega) (by decide) ?_
  refine lv_aload_n hx hb dX3_tell_82 rfl (lv_at hl 0 rfl) ?_
  refine va_get (D := D) (ci := 3) (v := .ref aCP) (C := RX3) (T := TX3) (N := 11) hx hb hts inX3 hown hK hP 0 rfl rfl 5 (by decide) fl27 (fun _ h9 => h9) rfl dX3_tell_83 ?_
  refine lv_iload_n hx hb dX3_tell_86 rfl (lv_at hl 1 rfl) ?_
  refine m_zald (k := q) hx hb hK hP 7 1 rfl rfl (by omega) (by decide) dX3_tell_87 ?_
  refine lv_if_eq (tgt := 95) hx hb dX3_tell_88 (by decide) (fun c_88 => ?_) (fun c_88 => ?_)
  · skip
    refine lv_iconst (v := 0) hx hb dX3_tell_95 (by decide) ?_
    exact ret 0 () _ _ _ _ dX3_tell_96 (by simp [tellS, *]) (hP) (hD) hS
  · skip
    refine lv_iconst (v := 1) hx hb dX3_tell_91 (by decide) ?_
    refine lv_goto (tgt := 96) hx hb dX3_tell_92 (by decide) ?_
    exact ret 1 () _ _ _ _ dX3_tell_96 (by simp [tellS, *]) (hP) (hD) hS
abbrev r_c_X3_handOver : Room := { frames := 0, cells := 0, slots := 0, locals := 0 }
set_option maxHeartbeats 4000000 in
set_option maxRecDepth 100000 in
theorem c_X3_handOver (l : Launch) (D : va_G) (cI cZ : ClassId) (aP : Nat) (aTD : Nat) (aTC : Nat) (aTK : Nat) (aTR : Nat) (aDY : Nat) (aCP : Nat) (aDB : Nat) (aCR : Nat) (aRK : Nat) (aLF : Nat) (fDB : Nat → Int32) (fCR : Nat → Int32) (fLF : Nat → Int32) (np : Nat) (x : Int32) (y : Int32) (hnp : np ≤ 40) : MV l yX3_handOver wsX3_handOver r_c_X3_handOver D cI cZ [.ref aP, .int x, .int y] [ob aP 3 [.ref aTD, .ref aTC, .ref aTK, .ref aTR, .ref aDY, .ref aCP, .ref aDB, .ref aCR, .ref aRK, .ref aLF, .int (nI np)], ar cI aDB 40 fDB, ar cI aCR 40 fCR, ar cI aLF 40 fLF] (fun (u : (Nat → Int32) × (Nat → Int32) × (Nat → Int32)) => u.1 = fil (rep x y fDB) fDB np ∧ u.2.1 = fil (rep x y fCR) fCR np ∧ u.2.2 = fil (repL x y fDB fCR fLF) fLF np) (fun (u : (Nat → Int32) × (Nat → Int32) × (Nat → Int32)) => [ob aP 3 [.ref aTD, .ref aTC, .ref aTK, .ref aTR, .ref aDY, .ref aCP, .ref aDB, .ref aCR, .ref aRK, .ref aLF, .int (nI np)], ar cI aDB 40 u.1, ar cI aCR 40 u.2.1, ar cI aLF 40 u.2.2]) 0 0 := by
  refine MV.of (cc := cX3_handOver) (maxL := 4) (by decide) rfl (Nat.le_of_ble_eq_true rfl) ?_
  intro p e s m below meth c A Q hx hb hml hown hts hN hK hA ret hP hD hS ls hl hnm
  have hown : s.vm.findClass RX3 = some m.cls := hown
  have inX3 : ∀ w ∈ wsX30, w ∈ wsX3_handOver := by decide +kernel
  have fl31 := hts (.fieldLink RX3 31 "AdvanceBook$Papers" "debtors" "[I") (by decide +kernel)
  have fl34 := hts (.fieldLink RX3 34 "AdvanceBook$Papers" "creditors" "[I") (by decide +kernel)
  have fl40 := hts (.fieldLink RX3 40 "AdvanceBook$Papers" "lefts" "[I") (by decide +kernel)
  have fl43 := hts (.fieldLink RX3 43 "AdvanceBook$Papers" "size" "I") (by decide +kernel)
  have hP : va_P D vwCl [ob aP 3 [.ref aTD, .ref aTC, .ref aTK, .ref aTR, .ref aDY, .ref aCP, .ref aDB, .ref aCR, .ref aRK, .ref aLF, .int (nI np)], ar cI aDB 40 fDB, ar cI aCR 40 fCR, ar cI aLF 40 fLF] s.heap := hP
  have hD : va_D A [ob aP 3 [.ref aTD, .ref aTC, .ref aTK, .ref aTR, .ref aDY, .ref aCP, .ref aDB, .ref aCR, .ref aRK, .ref aLF, .int (nI np)], ar cI aDB 40 fDB, ar cI aCR 40 fCR, ar cI aLF 40 fLF] := hD
  have hl : lv_has ls 4 [(0, .ref aP), (1, .int x), (2, .int y)] := hl
  refine lv_iconst (v := 0) hx hb dX3_handOver_0 (by decide) ?_
  refine lv_istore_n (lv' := [(3, .int 0), (0, .ref aP), (1, .int x), (2, .int y)]) hx hb dX3_handOver_1 rfl hl (by decide) rfl (fun ls hl => ?_)
  have L_2 : ∀ (n : Nat) (k : Nat) (hDB : Nat → Int32) (hCR : Nat → Int32) (hLF : Nat → Int32), (np - k < n) → (k ≤ np) → (hDB = fil (rep x y fDB) fDB k) → (hCR = fil (rep x y fCR) fCR k) → (hLF = fil (repL x y fDB fCR fLF) fLF k) → ∀ (H : Heap) (locs : List Loc), va_P D vwCl [ob aP 3 [.ref aTD, .ref aTC, .ref aTK, .ref aTR, .ref aDY, .ref aCP, .ref aDB, .ref aCR, .ref aRK, .ref aLF, .int (nI np)], ar cI aDB 40 hDB, ar cI aCR 40 hCR, ar cI aLF 40 hLF] H → va_D A [ob aP 3 [.ref aTD, .ref aTC, .ref aTK, .ref aTR, .ref aDY, .ref aCP, .ref aDB, .ref aCR, .ref aRK, .ref aLF, .int (nI np)], ar cI aDB 40 hDB, ar cI aCR 40 hCR, ar cI aLF 40 hLF] → va_S A s.heap H locs → ∀ ls : Array Slot, lv_has ls 4 [(0, .ref aP), (1, .int x), (2, .int y), (3, .int (nI k))] → W p l e r_c_X3_handOver s m (([.ref aP, .int x, .int y] : List Value).toArray) below meth c H locs 0 0 Q (F0 m 2 ls []) := by
    intro n
    induction n with
    | zero => intro k hDB hCR hLF hfu; exact absurd hfu (Nat.not_lt_zero _)
    | succ n ih =>
      intro k hDB hCR hLF hfu hk h1 h2 h3 H locs hP hD hS ls hl
      have e1 := fil_at h1
      have e2 := fil_at h2
      have e3 := fil_at h3
      refine lv_iload_n hx hb dX3_handOver_2 rfl (lv_at hl 3 rfl) ?_
      refine lv_aload_n hx hb dX3_handOver_3 rfl (lv_at hl 0 rfl) ?_
      refine va_get (D := D) (ci := 3) (v := .int (nI np)) (C := RX3) (T := TX3) (N := 11) hx hb hts inX3 hown hK hP 0 rfl rfl 10 (by decide) fl43 (fun _ h9 => h9) rfl dX3_handOver_4 ?_
      refine lv_icmp_ge (tgt := 72) hx hb dX3_handOver_7 (by decide) (fun c_7 => ?_) (fun c_7 => ?_)
      · skip
        have k_7 : np ≤ k := (nI_leI (a := np) (b := k) (by omega) (by omega)).mp c_7
        exact ret (hDB, hCR, hLF) _ _ _ _ dX3_handOver_72 (by have e : k = np := (by omega); subst e; exact ⟨h1, h2, h3⟩) (hP) (hD) hS
      · skip
        have k_7 : ¬ np ≤ k := fun h9 => c_7 ((nI_leI (a := np) (b := k) (by omega) (by omega)).mpr h9)
        refine lv_aload_n hx hb dX3_handOver_10 rfl (lv_at hl 0 rfl) ?_
        refine va_get (D := D) (ci := 3) (v := .ref aDB) (C := RX3) (T := TX3) (N := 11) hx hb hts inX3 hown hK hP 0 rfl rfl 6 (by decide) fl31 (fun _ h9 => h9) rfl dX3_handOver_11 ?_
        refine lv_iload_n hx hb dX3_handOver_14 rfl (lv_at hl 3 rfl) ?_
        refine m_iald (k := k) hx hb hK hP 1 0 rfl rfl (by omega) (by decide) dX3_handOver_15 ?_
        refine lv_iload_n hx hb dX3_handOver_16 rfl (lv_at hl 1 rfl) ?_
        refine lv_icmp_ne (tgt := 27) hx hb dX3_handOver_17 (by decide) (fun c_17 => ?_) (fun c_17 => ?_)
        · skip
          refine lv_aload_n hx hb dX3_handOver_27 rfl (lv_at hl 0 rfl) ?_
          refine va_get (D := D) (ci := 3) (v := .ref aCR) (C := RX3) (T := TX3) (N := 11) hx hb hts inX3 hown hK hP 0 rfl rfl 7 (by decide) fl34 (fun _ h9 => h9) rfl dX3_handOver_28 ?_
          refine lv_iload_n hx hb dX3_handOver_31 rfl (lv_at hl 3 rfl) ?_
          refine m_iald (k := k) hx hb hK hP 2 0 rfl rfl (by omega) (by decide) dX3_handOver_32 ?_
          refine lv_iload_n hx hb dX3_handOver_33 rfl (lv_at hl 1 rfl) ?_
          refine lv_icmp_ne (tgt := 44) hx hb dX3_handOver_34 (by decide) (fun c_34 => ?_) (fun c_34 => ?_)
          · skip
            refine lv_aload_n hx hb dX3_handOver_44 rfl (lv_at hl 0 rfl) ?_
            refine va_get (D := D) (ci := 3) (v := .ref aDB) (C := RX3) (T := TX3) (N := 11) hx hb hts inX3 hown hK hP 0 rfl rfl 6 (by decide) fl31 (fun _ h9 => h9) rfl dX3_handOver_45 ?_
            refine lv_iload_n hx hb dX3_handOver_48 rfl (lv_at hl 3 rfl) ?_
            refine m_iald (k := k) hx hb hK hP 1 0 rfl rfl (by omega) (by decide) dX3_handOver_49 ?_
            refine lv_aload_n hx hb dX3_handOver_50 rfl (lv_at hl 0 rfl) ?_
            refine va_get (D := D) (ci := 3) (v := .ref aCR) (C := RX3) (T := TX3) (N := 11) hx hb hts inX3 hown hK hP 0 rfl rfl 7 (by decide) fl34 (fun _ h9 => h9) rfl dX3_handOver_51 ?_
            refine lv_iload_n hx hb dX3_handOver_54 rfl (lv_at hl 3 rfl) ?_
            refine m_iald (k := k) hx hb hK hP 2 0 rfl rfl (by omega) (by decide) dX3_handOver_55 ?_
            refine lv_icmp_ne (tgt := 66) hx hb dX3_handOver_56 (by decide) (fun c_56 => ?_) (fun c_56 => ?_)
            · skip
              refine lv_iinc (v := (nI (k + 1))) (lv' := [(3, .int (nI (k + 1))), (0, .ref aP), (1, .int x), (2, .int y)]) hx hb dX3_handOver_66 hl (k := 3) rfl (nI_inc k 1 (by decide)) (by decide) rfl (fun ls hl => ?_)
              refine lv_goto (tgt := 2) hx hb dX3_handOver_69 (by decide) ?_
              exact ih (k + 1) hDB hCR hLF (by omega) (by omega) (by first | exact fil_step h1 (by simp_all [rep, upd]) | exact fil_skip h1 (by simp_all [rep, upd])) (by first | exact fil_step h2 (by simp_all [rep, upd]) | exact fil_skip h2 (by simp_all [rep, upd])) (by first | exact fil_step h3 (by simp_all [rep, repL, upd]) | exact fil_skip h3 (by simp_all [rep, repL, upd])) _ _ (hP) (hD) hS ls (lv_sub hl [1, 2, 3, 0] rfl)
            · skip
              refine lv_aload_n hx hb dX3_handOver_59 rfl (lv_at hl 0 rfl) ?_
              refine va_get (D := D) (ci := 3) (v := .ref aLF) (C := RX3) (T := TX3) (N := 11) hx hb hts inX3 hown hK hP 0 rfl rfl 9 (by decide) fl40 (fun _ h9 => h9) rfl dX3_handOver_60 ?_
              refine lv_iload_n hx hb dX3_handOver_63 rfl (lv_at hl 3 rfl) ?_
              refine lv_iconst (v := 0) hx hb dX3_handOver_64 (by decide) ?_
              refine m_iast (k := k) (x := 0) hx hb hK hP hD hS 3 0 rfl rfl (by omega) (by decide) dX3_handOver_65 (fun H locs hP hD hS => ?_)
              have hP : va_P D vwCl [ob aP 3 [.ref aTD, .ref aTC, .ref aTK, .ref aTR, .ref aDY, .ref aCP, .ref aDB, .ref aCR, .ref aRK, .ref aLF, .int (nI np)], ar cI aDB 40 hDB, ar cI aCR 40 hCR, ar cI aLF 40 (upd hLF k 0)] H := hP
              have hD : va_D A [ob aP 3 [.ref aTD, .ref aTC, .ref aTK, .ref aTR, .ref aDY, .ref aCP, .ref aDB, .ref aCR, .ref aRK, .ref aLF, .int (nI np)], ar cI aDB 40 hDB, ar cI aCR 40 hCR, ar cI aLF 40 (upd hLF k 0)] := hD
              refine lv_iinc (v := (nI (k + 1))) (lv' := [(3, .int (nI (k + 1))), (0, .ref aP), (1, .int x), (2, .int y)]) hx hb dX3_handOver_66 hl (k := 3) rfl (nI_inc k 1 (by decide)) (by decide) rfl (fun ls hl => ?_)
              refine lv_goto (tgt := 2) hx hb dX3_handOver_69 (by decide) ?_
              exact ih (k + 1) hDB hCR (upd hLF k 0) (by omega) (by omega) (by first | exact fil_step h1 (by simp_all [rep, upd]) | exact fil_skip h1 (by simp_all [rep, upd])) (by first | exact fil_step h2 (by simp_all [rep, upd]) | exact fil_skip h2 (by simp_all [rep, upd])) (by first | exact fil_step h3 (by simp_all [rep, repL, upd]) | exact fil_skip h3 (by simp_all [rep, repL, upd])) _ _ (hP) (hD) hS ls (lv_sub hl [1, 2, 3, 0] rfl)
          · skip
            refine lv_aload_n hx hb dX3_handOver_37 rfl (lv_at hl 0 rfl) ?_
            refine va_get (D := D) (ci := 3) (v := .ref aCR) (C := RX3) (T := TX3) (N := 11) hx hb hts inX3 hown hK hP 0 rfl rfl 7 (by decide) fl34 (fun _ h9 => h9) rfl dX3_handOver_38 ?_
            refine lv_iload_n hx hb dX3_handOver_41 rfl (lv_at hl 3 rfl) ?_
            refine lv_iload_n hx hb dX3_handOver_42 rfl (lv_at hl 2 rfl) ?_
            refine m_iast (k := k) (x := y) hx hb hK hP hD hS 2 0 rfl rfl (by omega) (by decide) dX3_handOver_43 (fun H locs hP hD hS => ?_)
            have hP : va_P D vwCl [ob aP 3 [.ref aTD, .ref aTC, .ref aTK, .ref aTR, .ref aDY, .ref aCP, .ref aDB, .ref aCR, .ref aRK, .ref aLF, .int (nI np)], ar cI aDB 40 hDB, ar cI aCR 40 (upd hCR k y), ar cI aLF 40 hLF] H := hP
            have hD : va_D A [ob aP 3 [.ref aTD, .ref aTC, .ref aTK, .ref aTR, .ref aDY, .ref aCP, .ref aDB, .ref aCR, .ref aRK, .ref aLF, .int (nI np)], ar cI aDB 40 hDB, ar cI aCR 40 (upd hCR k y), ar cI aLF 40 hLF] := hD
            refine lv_aload_n hx hb dX3_handOver_44 rfl (lv_at hl 0 rfl) ?_
            refine va_get (D := D) (ci := 3) (v := .ref aDB) (C := RX3) (T := TX3) (N := 11) hx hb hts inX3 hown hK hP 0 rfl rfl 6 (by decide) fl31 (fun _ h9 => h9) rfl dX3_handOver_45 ?_
            refine lv_iload_n hx hb dX3_handOver_48 rfl (lv_at hl 3 rfl) ?_
            refine m_iald (k := k) hx hb hK hP 1 0 rfl rfl (by omega) (by decide) dX3_handOver_49 ?_
            refine lv_aload_n hx hb dX3_handOver_50 rfl (lv_at hl 0 rfl) ?_
            refine va_get (D := D) (ci := 3) (v := .ref aCR) (C := RX3) (T := TX3) (N := 11) hx hb hts inX3 hown hK hP 0 rfl rfl 7 (by decide) fl34 (fun _ h9 => h9) rfl dX3_handOver_51 ?_
            refine lv_iload_n hx hb dX3_handOver_54 rfl (lv_at hl 3 rfl) ?_
            refine m_iald (k := k) hx hb hK hP 2 0 rfl rfl (by omega) (by decide) dX3_handOver_55 ?_
            refine lv_icmp_ne (tgt := 66) hx hb dX3_handOver_56 (by decide) (fun c_56 => ?_) (fun c_56 => ?_)
            · skip
              refine lv_iinc (v := (nI (k + 1))) (lv' := [(3, .int (nI (k + 1))), (0, .ref aP), (1, .int x), (2, .int y)]) hx hb dX3_handOver_66 hl (k := 3) rfl (nI_inc k 1 (by decide)) (by decide) rfl (fun ls hl => ?_)
              refine lv_goto (tgt := 2) hx hb dX3_handOver_69 (by decide) ?_
              exact ih (k + 1) hDB (upd hCR k y) hLF (by omega) (by omega) (by first | exact fil_step h1 (by simp_all [rep, upd]) | exact fil_skip h1 (by simp_all [rep, upd])) (by first | exact fil_step h2 (by simp_all [rep, upd]) | exact fil_skip h2 (by simp_all [rep, upd])) (by first | exact fil_step h3 (by simp_all [rep, repL, upd]) | exact fil_skip h3 (by simp_all [rep, repL, upd])) _ _ (hP) (hD) hS ls (lv_sub hl [1, 2, 3, 0] rfl)
            · skip
              refine lv_aload_n hx hb dX3_handOver_59 rfl (lv_at hl 0 rfl) ?_
              refine va_get (D := D) (ci := 3) (v := .ref aLF) (C := RX3) (T := TX3) (N := 11) hx hb hts inX3 hown hK hP 0 rfl rfl 9 (by decide) fl40 (fun _ h9 => h9) rfl dX3_handOver_60 ?_
              refine lv_iload_n hx hb dX3_handOver_63 rfl (lv_at hl 3 rfl) ?_
              refine lv_iconst (v := 0) hx hb dX3_handOver_64 (by decide) ?_
              refine m_iast (k := k) (x := 0) hx hb hK hP hD hS 3 0 rfl rfl (by omega) (by decide) dX3_handOver_65 (fun H locs hP hD hS => ?_)
              have hP : va_P D vwCl [ob aP 3 [.ref aTD, .ref aTC, .ref aTK, .ref aTR, .ref aDY, .ref aCP, .ref aDB, .ref aCR, .ref aRK, .ref aLF, .int (nI np)], ar cI aDB 40 hDB, ar cI aCR 40 (upd hCR k y), ar cI aLF 40 (upd hLF k 0)] H := hP
              have hD : va_D A [ob aP 3 [.ref aTD, .ref aTC, .ref aTK, .ref aTR, .ref aDY, .ref aCP, .ref aDB, .ref aCR, .ref aRK, .ref aLF, .int (nI np)], ar cI aDB 40 hDB, ar cI aCR 40 (upd hCR k y), ar cI aLF 40 (upd hLF k 0)] := hD
              refine lv_iinc (v := (nI (k + 1))) (lv' := [(3, .int (nI (k + 1))), (0, .ref aP), (1, .int x), (2, .int y)]) hx hb dX3_handOver_66 hl (k := 3) rfl (nI_inc k 1 (by decide)) (by decide) rfl (fun ls hl => ?_)
              refine lv_goto (tgt := 2) hx hb dX3_handOver_69 (by decide) ?_
              exact ih (k + 1) hDB (upd hCR k y) (upd hLF k 0) (by omega) (by omega) (by first | exact fil_step h1 (by simp_all [rep, upd]) | exact fil_skip h1 (by simp_all [rep, upd])) (by first | exact fil_step h2 (by simp_all [rep, upd]) | exact fil_skip h2 (by simp_all [rep, upd])) (by first | exact fil_step h3 (by simp_all [rep, repL, upd]) | exact fil_skip h3 (by simp_all [rep, repL, upd])) _ _ (hP) (hD) hS ls (lv_sub hl [1, 2, 3, 0] rfl)
        · skip
          refine lv_aload_n hx hb dX3_handOver_20 rfl (lv_at hl 0 rfl) ?_
          refine va_get (D := D) (ci := 3) (v := .ref aDB) (C := RX3) (T := TX3) (N := 11) hx hb hts inX3 hown hK hP 0 rfl rfl 6 (by decide) fl31 (fun _ h9 => h9) rfl dX3_handOver_21 ?_
          refine lv_iload_n hx hb dX3_handOver_24 rfl (lv_at hl 3 rfl) ?_
          refine lv_iload_n hx hb dX3_handOver_25 rfl (lv_at hl 2 rfl) ?_
          refine m_iast (k := k) (x := y) hx hb hK hP hD hS 1 0 rfl rfl (by omega) (by decide) dX3_handOver_26 (fun H locs hP hD hS => ?_)
          have hP : va_P D vwCl [ob aP 3 [.ref aTD, .ref aTC, .ref aTK, .ref aTR, .ref aDY, .ref aCP, .ref aDB, .ref aCR, .ref aRK, .ref aLF, .int (nI np)], ar cI aDB 40 (upd hDB k y), ar cI aCR 40 hCR, ar cI aLF 40 hLF] H := hP
          have hD : va_D A [ob aP 3 [.ref aTD, .ref aTC, .ref aTK, .ref aTR, .ref aDY, .ref aCP, .ref aDB, .ref aCR, .ref aRK, .ref aLF, .int (nI np)], ar cI aDB 40 (upd hDB k y), ar cI aCR 40 hCR, ar cI aLF 40 hLF] := hD
          refine lv_aload_n hx hb dX3_handOver_27 rfl (lv_at hl 0 rfl) ?_
          refine va_get (D := D) (ci := 3) (v := .ref aCR) (C := RX3) (T := TX3) (N := 11) hx hb hts inX3 hown hK hP 0 rfl rfl 7 (by decide) fl34 (fun _ h9 => h9) rfl dX3_handOver_28 ?_
          refine lv_iload_n hx hb dX3_handOver_31 rfl (lv_at hl 3 rfl) ?_
          refine m_iald (k := k) hx hb hK hP 2 0 rfl rfl (by omega) (by decide) dX3_handOver_32 ?_
          refine lv_iload_n hx hb dX3_handOver_33 rfl (lv_at hl 1 rfl) ?_
          refine lv_icmp_ne (tgt := 44) hx hb dX3_handOver_34 (by decide) (fun c_34 => ?_) (fun c_34 => ?_)
          · skip
            refine lv_aload_n hx hb dX3_handOver_44 rfl (lv_at hl 0 rfl) ?_
            refine va_get (D := D) (ci := 3) (v := .ref aDB) (C := RX3) (T := TX3) (N := 11) hx hb hts inX3 hown hK hP 0 rfl rfl 6 (by decide) fl31 (fun _ h9 => h9) rfl dX3_handOver_45 ?_
            refine lv_iload_n hx hb dX3_handOver_48 rfl (lv_at hl 3 rfl) ?_
            refine m_iald (k := k) hx hb hK hP 1 0 rfl rfl (by omega) (by decide) dX3_handOver_49 ?_
            refine lv_aload_n hx hb dX3_handOver_50 rfl (lv_at hl 0 rfl) ?_
            refine va_get (D := D) (ci := 3) (v := .ref aCR) (C := RX3) (T := TX3) (N := 11) hx hb hts inX3 hown hK hP 0 rfl rfl 7 (by decide) fl34 (fun _ h9 => h9) rfl dX3_handOver_51 ?_
            refine lv_iload_n hx hb dX3_handOver_54 rfl (lv_at hl 3 rfl) ?_
            refine m_iald (k := k) hx hb hK hP 2 0 rfl rfl (by omega) (by decide) dX3_handOver_55 ?_
            refine lv_icmp_ne (tgt := 66) hx hb dX3_handOver_56 (by decide) (fun c_56 => ?_) (fun c_56 => ?_)
            · skip
              refine lv_iinc (v := (nI (k + 1))) (lv' := [(3, .int (nI (k + 1))), (0, .ref aP), (1, .int x), (2, .int y)]) hx hb dX3_handOver_66 hl (k := 3) rfl (nI_inc k 1 (by decide)) (by decide) rfl (fun ls hl => ?_)
              refine lv_goto (tgt := 2) hx hb dX3_handOver_69 (by decide) ?_
              exact ih (k + 1) (upd hDB k y) hCR hLF (by omega) (by omega) (by first | exact fil_step h1 (by simp_all [rep, upd]) | exact fil_skip h1 (by simp_all [rep, upd])) (by first | exact fil_step h2 (by simp_all [rep, upd]) | exact fil_skip h2 (by simp_all [rep, upd])) (by first | exact fil_step h3 (by simp_all [rep, repL, upd]) | exact fil_skip h3 (by simp_all [rep, repL, upd])) _ _ (hP) (hD) hS ls (lv_sub hl [1, 2, 3, 0] rfl)
            · skip
              refine lv_aload_n hx hb dX3_handOver_59 rfl (lv_at hl 0 rfl) ?_
              refine va_get (D := D) (ci := 3) (v := .ref aLF) (C := RX3) (T := TX3) (N := 11) hx hb hts inX3 hown hK hP 0 rfl rfl 9 (by decide) fl40 (fun _ h9 => h9) rfl dX3_handOver_60 ?_
              refine lv_iload_n hx hb dX3_handOver_63 rfl (lv_at hl 3 rfl) ?_
              refine lv_iconst (v := 0) hx hb dX3_handOver_64 (by decide) ?_
              refine m_iast (k := k) (x := 0) hx hb hK hP hD hS 3 0 rfl rfl (by omega) (by decide) dX3_handOver_65 (fun H locs hP hD hS => ?_)
              have hP : va_P D vwCl [ob aP 3 [.ref aTD, .ref aTC, .ref aTK, .ref aTR, .ref aDY, .ref aCP, .ref aDB, .ref aCR, .ref aRK, .ref aLF, .int (nI np)], ar cI aDB 40 (upd hDB k y), ar cI aCR 40 hCR, ar cI aLF 40 (upd hLF k 0)] H := hP
              have hD : va_D A [ob aP 3 [.ref aTD, .ref aTC, .ref aTK, .ref aTR, .ref aDY, .ref aCP, .ref aDB, .ref aCR, .ref aRK, .ref aLF, .int (nI np)], ar cI aDB 40 (upd hDB k y), ar cI aCR 40 hCR, ar cI aLF 40 (upd hLF k 0)] := hD
              refine lv_iinc (v := (nI (k + 1))) (lv' := [(3, .int (nI (k + 1))), (0, .ref aP), (1, .int x), (2, .int y)]) hx hb dX3_handOver_66 hl (k := 3) rfl (nI_inc k 1 (by decide)) (by decide) rfl (fun ls hl => ?_)
              refine lv_goto (tgt := 2) hx hb dX3_handOver_69 (by decide) ?_
              exact ih (k + 1) (upd hDB k y) hCR (upd hLF k 0) (by omega) (by omega) (by first | exact fil_step h1 (by simp_all [rep, upd]) | exact fil_skip h1 (by simp_all [rep, upd])) (by first | exact fil_step h2 (by simp_all [rep, upd]) | exact fil_skip h2 (by simp_all [rep, upd])) (by first | exact fil_step h3 (by simp_all [rep, repL, upd]) | exact fil_skip h3 (by simp_all [rep, repL, upd])) _ _ (hP) (hD) hS ls (lv_sub hl [1, 2, 3, 0] rfl)
          · skip
            refine lv_aload_n hx hb dX3_handOver_37 rfl (lv_at hl 0 rfl) ?_
            refine va_get (D := D) (ci := 3) (v := .ref aCR) (C := RX3) (T := TX3) (N := 11) hx hb hts inX3 hown hK hP 0 rfl rfl 7 (by decide) fl34 (fun _ h9 => h9) rfl dX3_handOver_38 ?_
            refine lv_iload_n hx hb dX3_handOver_41 rfl (lv_at hl 3 rfl) ?_
            refine lv_iload_n hx hb dX3_handOver_42 rfl (lv_at hl 2 rfl) ?_
            refine m_iast (k := k) (x := y) hx hb hK hP hD hS 2 0 rfl rfl (by omega) (by decide) dX3_handOver_43 (fun H locs hP hD hS => ?_)
            have hP : va_P D vwCl [ob aP 3 [.ref aTD, .ref aTC, .ref aTK, .ref aTR, .ref aDY, .ref aCP, .ref aDB, .ref aCR, .ref aRK, .ref aLF, .int (nI np)], ar cI aDB 40 (upd hDB k y), ar cI aCR 40 (upd hCR k y), ar cI aLF 40 hLF] H := hP
            have hD : va_D A [ob aP 3 [.ref aTD, .ref aTC, .ref aTK, .ref aTR, .ref aDY, .ref aCP, .ref aDB, .ref aCR, .ref aRK, .ref aLF, .int (nI np)], ar cI aDB 40 (upd hDB k y), ar cI aCR 40 (upd hCR k y), ar cI aLF 40 hLF] := hD
            refine lv_aload_n hx hb dX3_handOver_44 rfl (lv_at hl 0 rfl) ?_
            refine va_get (D := D) (ci := 3) (v := .ref aDB) (C := RX3) (T := TX3) (N := 11) hx hb hts inX3 hown hK hP 0 rfl rfl 6 (by decide) fl31 (fun _ h9 => h9) rfl dX3_handOver_45 ?_
            refine lv_iload_n hx hb dX3_handOver_48 rfl (lv_at hl 3 rfl) ?_
            refine m_iald (k := k) hx hb hK hP 1 0 rfl rfl (by omega) (by decide) dX3_handOver_49 ?_
            refine lv_aload_n hx hb dX3_handOver_50 rfl (lv_at hl 0 rfl) ?_
            refine va_get (D := D) (ci := 3) (v := .ref aCR) (C := RX3) (T := TX3) (N := 11) hx hb hts inX3 hown hK hP 0 rfl rfl 7 (by decide) fl34 (fun _ h9 => h9) rfl dX3_handOver_51 ?_
            refine lv_iload_n hx hb dX3_handOver_54 rfl (lv_at hl 3 rfl) ?_
            refine m_iald (k := k) hx hb hK hP 2 0 rfl rfl (by omega) (by decide) dX3_handOver_55 ?_
            refine lv_icmp_ne (tgt := 66) hx hb dX3_handOver_56 (by decide) (fun c_56 => ?_) (fun c_56 => ?_)
            · skip
              refine lv_iinc (v := (nI (k + 1))) (lv' := [(3, .int (nI (k + 1))), (0, .ref aP), (1, .int x), (2, .int y)]) hx hb dX3_handOver_66 hl (k := 3) rfl (nI_inc k 1 (by decide)) (by decide) rfl (fun ls hl => ?_)
              refine lv_goto (tgt := 2) hx hb dX3_handOver_69 (by decide) ?_
              exact ih (k + 1) (upd hDB k y) (upd hCR k y) hLF (by omega) (by omega) (by first | exact fil_step h1 (by simp_all [rep, upd]) | exact fil_skip h1 (by simp_all [rep, upd])) (by first | exact fil_step h2 (by simp_all [rep, upd]) | exact fil_skip h2 (by simp_all [rep, upd])) (by first | exact fil_step h3 (by simp_all [rep, repL, upd]) | exact fil_skip h3 (by simp_all [rep, repL, upd])) _ _ (hP) (hD) hS ls (lv_sub hl [1, 2, 3, 0] rfl)
            · skip
              refine lv_aload_n hx hb dX3_handOver_59 rfl (lv_at hl 0 rfl) ?_
              refine va_get (D := D) (ci := 3) (v := .ref aLF) (C := RX3) (T := TX3) (N := 11) hx hb hts inX3 hown hK hP 0 rfl rfl 9 (by decide) fl40 (fun _ h9 => h9) rfl dX3_handOver_60 ?_
              refine lv_iload_n hx hb dX3_handOver_63 rfl (lv_at hl 3 rfl) ?_
              refine lv_iconst (v := 0) hx hb dX3_handOver_64 (by decide) ?_
              refine m_iast (k := k) (x := 0) hx hb hK hP hD hS 3 0 rfl rfl (by omega) (by decide) dX3_handOver_65 (fun H locs hP hD hS => ?_)
              have hP : va_P D vwCl [ob aP 3 [.ref aTD, .ref aTC, .ref aTK, .ref aTR, .ref aDY, .ref aCP, .ref aDB, .ref aCR, .ref aRK, .ref aLF, .int (nI np)], ar cI aDB 40 (upd hDB k y), ar cI aCR 40 (upd hCR k y), ar cI aLF 40 (upd hLF k 0)] H := hP
              have hD : va_D A [ob aP 3 [.ref aTD, .ref aTC, .ref aTK, .ref aTR, .ref aDY, .ref aCP, .ref aDB, .ref aCR, .ref aRK, .ref aLF, .int (nI np)], ar cI aDB 40 (upd hDB k y), ar cI aCR 40 (upd hCR k y), ar cI aLF 40 (upd hLF k 0)] := hD
              refine lv_iinc (v := (nI (k + 1))) (lv' := [(3, .int (nI (k + 1))), (0, .ref aP), (1, .int x), (2, .int y)]) hx hb dX3_handOver_66 hl (k := 3) rfl (nI_inc k 1 (by decide)) (by decide) rfl (fun ls hl => ?_)
              refine lv_goto (tgt := 2) hx hb dX3_handOver_69 (by decide) ?_
              exact ih (k + 1) (upd hDB k y) (upd hCR k y) (upd hLF k 0) (by omega) (by omega) (by first | exact fil_step h1 (by simp_all [rep, upd]) | exact fil_skip h1 (by simp_all [rep, upd])) (by first | exact fil_step h2 (by simp_all [rep, upd]) | exact fil_skip h2 (by simp_all [rep, upd])) (by first | exact fil_step h3 (by simp_all [rep, repL, upd]) | exact fil_skip h3 (by simp_all [rep, repL, upd])) _ _ (hP) (hD) hS ls (lv_sub hl [1, 2, 3, 0] rfl)
  exact L_2 ((np - 0) + 1) 0 fDB fCR fLF (Nat.lt_succ_self _) (by omega) (fil_0.symm) (fil_0.symm) (fil_0.symm) _ _ (hP) (hD) hS ls (lv_sub hl [1, 2, 3, 0] rfl)
