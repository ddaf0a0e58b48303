/-! the law's own look: it catches what look throws -/
abbrev tyL3 (cI cZ cL : ClassId) : List (ClassId × FieldType) := [(cI, .int), (cZ, .boolean), (cL, .long)]
abbrev lng (cL : ClassId) (a : Nat) (f : Nat → Int64) : Nat × va_E := (a, .inl (cL, 1, .inr (.inl f)))
def mPcL (D : va_G) (cI cZ cL : ClassId) (ad adv : Nat → Nat) (av : List Value) (sz : Nat) (ws : va_W) : Array Value → State → Prop :=
  va_Pc av (fun U => U.heap.size = sz ∧ nest U ∧ va_P D vwCl ws U.heap ∧ va_K D vwCl (tyL3 cI cZ cL) U ∧ va_D (fun _ => True) ws ∧ envS ad adv (va_A ws sz) U U.heap ∧ decX U)
theorem mPcL_blind {D : va_G} {cI cZ cL : ClassId} {ad adv : Nat → Nat} {av : List Value} {sz : Nat} {ws : va_W} : FrameBlind (mPcL D cI cZ cL ad adv av sz ws) := by
  intro a U g mk q
  obtain ⟨q0, q1, qN, qP, qK, qD, qE, qX⟩ := q
  exact ⟨q0, q1, nest_same (u := U) (U := U.calling g mk a) rfl qN, qP, va_K.moved (u := U) (U := U.calling g mk a) (Vm.Alike.refl U.vm) qK, qD, envS.same (s := U) (U := U.calling g mk a) rfl qE, decX.moved (u := U) (U := U.calling g mk a) (Vm.Alike.refl U.vm) qX⟩
def mBL {S : Type} (D : va_G) (cI cZ cL : ClassId) (A : Nat → Prop) (w : S → va_W) (u : S) (t : State) : Prop := va_P D vwCl (w u) t.heap ∧ va_K D vwCl (tyL3 cI cZ cL) t ∧ va_D A (w u)
abbrev r_L_look : Room := { frames := 7, cells := 1, slots := 6, locals := 112 }
section LLOOK
variable (aBK aT aTA aR aB aD0 aC aCE aD aD2 aPU aP aTD aTC aTK aTR aDY aCP aDB aCR aRK aLF aO : Nat) (fDB fCR fTK fRK fLF fDY fCP : Nat → Int32) (nm : Nat) (td : Int32) (np : Nat) (isd a0 x : Int32) (fO : Nat → Int64)
abbrev lkW (cI cZ : ClassId) : va_W := [ob aBK 7 [.ref aT, .ref aTA, .ref aR, .ref aB, .ref aD0, .ref aC, .ref aCE, .ref aD, .ref aD2, .int isd], ob aT 6 [.ref aPU, .ref aP, .int (nI nm), .int td], ob aP 3 [.ref aTD, .ref aTC, .ref aTK, .ref aTR, .ref aDY, .ref aCP, .ref aDB, .ref aCR, .ref aRK, .ref aLF, .int (nI np)], ar cI aDB 40 fDB, ar cI aCR 40 fCR, ar cI aTK 40 fTK, ar cI aRK 40 fRK, ar cI aLF 40 fLF, ar cI aDY 40 fDY, ar cZ aCP 40 fCP]
abbrev lkP (r : Int32) (g : Nat → Int64) : Prop := ((0 ≤ a0 ∧ a0 < nI np) ∧ (0 ≤ x ∧ x ≤ 6) ∧ r = 0 ∧ g 0 = (tellS fDB fCR fTK fRK fLF fDY fCP (ix a0) x).toInt64) ∨ (¬ (0 ≤ a0 ∧ a0 < nI np) ∧ r = 1) ∨ ((0 ≤ a0 ∧ a0 < nI np) ∧ ¬ (0 ≤ x ∧ x ≤ 6) ∧ r = 2)
set_option maxHeartbeats 4000000 in
set_option maxRecDepth 100000 in
theorem c_L_look (l : Launch) (D : va_G) (cI cZ cL : ClassId) (ad adv : Nat → Nat) (hst : l.stackTraces = false) (hnp : np ≤ 40) : ∀ sz : Nat,
    vx_Met l yL_look wkL_look r_L_look (mPcL D cI cZ cL ad adv [.ref aBK, .int a0, .int x, .ref aO] sz (lng cL aO fO :: lkW aBK aT aTA aR aB aD0 aC aCE aD aD2 aPU aP aTD aTC aTK aTR aDY aCP aDB aCR aRK aLF fDB fCR fTK fRK fLF fDY fCP nm td np isd cI cZ))
      (va_Qi (lkP fDB fCR fTK fRK fLF fDY fCP np a0 x) (mBL D cI cZ cL (va_A (lng cL aO fO :: lkW aBK aT aTA aR aB aD0 aC aCE aD aD2 aPU aP aTD aTC aTK aTR aDY aCP aDB aCR aRK aLF fDB fCR fTK fRK fLF fDY fCP nm td np isd cI cZ) sz) (fun g : Nat → Int64 => lng cL aO g :: lkW aBK aT aTA aR aB aD0 aC aCE aD aD2 aPU aP aTD aTC aTK aTR aDY aCP aDB aCR aRK aLF fDB fCR fTK fRK fLF fDY fCP nm td np isd cI cZ)) (va_A (lng cL aO fO :: lkW aBK aT aTA aR aB aD0 aC aCE aD aD2 aPU aP aTD aTC aTK aTR aDY aCP aDB aCR aRK aLF fDB fCR fTK fRK fLF fDY fCP nm td np isd cI cZ) sz))
      (vx_X (fun _ : Unit => False) (fun (_ : String) (_ : Unit) (_ : State) => True) (va_A (lng cL aO fO :: lkW aBK aT aTA aR aB aD0 aC aCE aD aD2 aPU aP aTD aTC aTK aTR aDY aCP aDB aCR aRK aLF fDB fCR fTK fRK fLF fDY fCP nm td np isd cI cZ) sz)) 1 6 (va_A (lng cL aO fO :: lkW aBK aT aTA aR aB aD0 aC aCE aD aD2 aPU aP aTD aTC aTK aTR aDY aCP aDB aCR aRK aLF fDB fCR fTK fRK fLF fDY fCP nm td np isd cI cZ) sz) := by
  intro sz
  refine vx_ofWH (cc := cL_look) (maxL := 5) (ret := some .int) (hh := [(0, 10, 13, 13), (0, 10, 17, 15)]) (by decide) rfl ?_
  intro p e s m args below meth c s₁ B hml hv
  obtain ⟨rfl, hsz, hN, hP, hK, hD0, hE, hX⟩ := hv
  have hts := atoms_spec (ws := wkL_look) B.pre
  have htab := vx_table (x := yL_look) B (hts _ List.mem_cons_self)
  have hx := B.exec
  have hb := B.bytes
  have hown : s.vm.findClass RL = some m.cls := findClass_of_methodNamed B.named
  subst hsz
  have hD := hD0.self (sz := s.heap.size)
  have hl := lv_entry [.ref aBK, .int a0, .int x, .ref aO] (n := 5) (Nat.le_of_ble_eq_true rfl)
  rw [lg_entry_eq]
  generalize hAe : va_A (lng cL aO fO :: lkW aBK aT aTA aR aB aD0 aC aCE aD aD2 aPU aP aTD aTC aTK aTR aDY aCP aDB aCR aRK aLF fDB fCR fTK fRK fLF fDY fCP nm td np isd cI cZ) s.heap.size = A at hE hD ⊢
  have hA : ∀ q : Nat, s.heap.size ≤ q → A q := fun q h => by rw [← hAe]; exact Or.inr h
  have hS : va_S A s.heap s.heap [] := va_S.rf
  have hl : lv_has _ 5 [(0, .ref aBK), (1, .int a0), (2, .int x), (3, .ref aO)] := hl
  have ret : ∀ (v : Int32) (g : Nat → Int64) (H : Heap) (locs : List Loc) (pc : Nat) (ls : Array Slot), decode cL_look pc = .ok (.ireturn, 1) → lkP fDB fCR fTK fRK fLF fDY fCP np a0 x v g → va_P D vwCl (lng cL aO g :: lkW aBK aT aTA aR aB aD0 aC aCE aD aD2 aPU aP aTD aTC aTK aTR aDY aCP aDB aCR aRK aLF fDB fCR fTK fRK fLF fDY fCP nm td np isd cI cZ) H → va_D A (lng cL aO g :: lkW aBK aT aTA aR aB aD0 aC aCE aD aD2 aPU aP aTD aTC aTK aTR aDY aCP aDB aCR aRK aLF fDB fCR fTK fRK fLF fDY fCP nm td np isd cI cZ) → va_S A s.heap H locs → W p l e r_L_look s m _ below meth c H locs 1 6 (vx_MQ below (va_Qi (lkP fDB fCR fTK fRK fLF fDY fCP np a0 x) (mBL D cI cZ cL A (fun g : Nat → Int64 => lng cL aO g :: lkW aBK aT aTA aR aB aD0 aC aCE aD aD2 aPU aP aTD aTC aTK aTR aDY aCP aDB aCR aRK aLF fDB fCR fTK fRK fLF fDY fCP nm td np isd cI cZ)) A) (vx_X (fun _ : Unit => False) (fun (_ : String) (_ : Unit) (_ : State) => True) A) ([.ref aBK, .int a0, .int x, .ref aO] : List Value).toArray s 1 6 A) (F0 m pc ls [.int v]) :=
    fun v g H locs pc ls hd hp hP hD hS => vx_ret (W.iret B.exec B.bytes B.returns (fun t ht hW => ⟨⟨v, g, rfl, hp, by rw [ht]; exact hP, va_K.moved hW.alike hK, hD⟩, hS.F ht⟩) hS.2.2 hd (hlocks := B.notSynchronized))
  refine lv_aload_n hx hb dL_look_0 rfl (lv_at hl 3 rfl) ?_
  refine lv_iconst (v := 0) hx hb dL_look_1 (by decide) ?_
  refine lv_aload_n hx hb dL_look_2 rfl (lv_at hl 0 rfl) ?_
  refine lv_iload_n hx hb dL_look_3 rfl (lv_at hl 1 rfl) ?_
  refine lv_iload_n hx hb dL_look_4 rfl (lv_at hl 2 rfl) ?_
  have hK2 : va_K D vwCl (tyL cI cZ) s := hK.sub [0, 1] rfl
  have hPc := hP.sub (ws' := lkW aBK aT aTA aR aB aD0 aC aCE aD aD2 aPU aP aTD aTC aTK aTR aDY aCP aDB aCR aRK aLF fDB fCR fTK fRK fLF fDY fCP nm td np isd cI cZ) [1, 2, 3, 4, 5, 6, 7, 8, 9, 10] rfl
  have hDc := hD.sub (ws' := lkW aBK aT aTA aR aB aD0 aC aCE aD aD2 aPU aP aTD aTC aTK aTR aDY aCP aDB aCR aRK aLF fDB fCR fTK fRK fLF fDY fCP nm td np isd cI cZ) [1, 2, 3, 4, 5, 6, 7, 8, 9, 10] (by decide) rfl
  have hFc := va_free (wc := lkW aBK aT aTA aR aB aD0 aC aCE aD aD2 aPU aP aTD aTC aTK aTR aDY aCP aDB aCR aRK aLF fDB fCR fTK fRK fLF fDY fCP nm td np isd cI cZ) hD hS hA [1, 2, 3, 4, 5, 6, 7, 8, 9, 10] rfl
  refine vx_calli (vx_runV (As := [.int a0, .int x]) (rest := [.int 0, .ref aO]) ⟨hx, hb, hml, hown, hts⟩ (c_X7_look l D cI cZ ad adv aBK aT aTA aR aB aD0 aC aCE aD aD2 aPU aP aTD aTC aTK aTR aDY aCP aDB aCR aRK aLF fDB fCR fTK fRK fLF fDY fCP nm td np isd a0 x hst hnp s.heap.size) (cwV 2 hts gL_look_X7_look rfl rfl rfl (by decide +kernel) ⟨Nat.le_of_ble_eq_true rfl, Nat.le_of_ble_eq_true rfl⟩)
    ⟨mPcX_blind, va_recv hK2 hPc (q0 := 0) (ci := 7) (q := (RX7, TX7, 10)) rfl rfl, fun U hU hW => ⟨rfl, by rw [hU], nest_warm hW hN, by rw [hU]; exact hPc, va_K.moved hW.alike hK2, hDc.weaken (fun _ _ _ _ => trivial), by rw [hU]; exact (hE.narrow hFc).warm hW, hX.moved hW.alike⟩⟩ rfl rfl hl.1 rfl (lv_room (Nat.le_of_ble_eq_true rfl)) dL_look_5 ⟨Nat.le_of_ble_eq_true rfl, Nat.le_of_ble_eq_true rfl⟩) hS (fun q _ h => hFc q h) hFc (fun q _ h => hFc q h) (fun E ce q9 u t H1 locs1 ht hal _ hB hz1 hk1 hS1 hce hcv hcl => ?_) (fun r u t H1 locs1 ht hal hw hB hz1 hk1 hS1 => ?_)
  · obtain ⟨hbx, hB⟩ := hB
    obtain ⟨hP1, hD1⟩ := mB_join (wr := [lng cL aO fO]) hP hD [1, 2, 3, 4, 5, 6, 7, 8, 9, 10] [0] rfl rfl (by decide) (by decide) hFc ht hk1 hB
    have hP1 : va_P D vwCl (lng cL aO fO :: lkW aBK aT aTA aR aB aD0 aC aCE aD aD2 aPU aP aTD aTC aTK aTR aDY aCP aDB aCR aRK aLF fDB fCR fTK fRK fLF fDY fCP nm td np isd cI cZ) H1 := hP1
    have hD1 : va_D A (lng cL aO fO :: lkW aBK aT aTA aR aB aD0 aC aCE aD aD2 aPU aP aTD aTC aTK aTR aDY aCP aDB aCR aRK aLF fDB fCR fTK fRK fLF fDY fCP nm td np isd cI cZ) := hD1
    rcases hbx with ⟨rfl, hno⟩ | ⟨rfl, hin, hno⟩
    · refine vx_catch hown [] ⟨0, 10, 13, 13⟩ [⟨0, 10, 17, 15⟩] (htab.trans rfl) (fun _ h => nomatch h) (by decide) (by decide) (hts (.classLink RL 13 "java/lang/IndexOutOfBoundsException") (by decide +kernel)) (hX.use (by decide +kernel)) hce hcv hcl ?_
      refine lv_astore (lv' := [(4, .ref q9), (0, .ref aBK), (1, .int a0), (2, .int x), (3, .ref aO)]) hx hb dL_look_13 hl (by decide) rfl (fun ls hl => ?_)
      refine lv_iconst (v := 1) hx hb dL_look_15 (by decide) ?_
      exact ret 1 fO _ _ _ _ dL_look_16 (Or.inr (Or.inl ⟨hno, rfl⟩)) hP1 hD1 hS1
    · refine vx_catch hown [⟨0, 10, 13, 13⟩] ⟨0, 10, 17, 15⟩ [] (htab.trans rfl) (fun z hz => ?_) (by decide) (by decide) (hts (.classLink RL 15 "java/util/NoSuchElementException") (by decide +kernel)) (hX.use (by decide +kernel)) hce hcv hcl ?_
      · rw [List.mem_singleton.mp hz]
        exact Or.inr ⟨by decide, "java/lang/IndexOutOfBoundsException", hts (.classLink RL 13 "java/lang/IndexOutOfBoundsException") (by decide +kernel), hE.2.2⟩
      refine lv_astore (lv' := [(4, .ref q9), (0, .ref aBK), (1, .int a0), (2, .int x), (3, .ref aO)]) hx hb dL_look_17 hl (by decide) rfl (fun ls hl => ?_)
      refine lv_iconst (v := 2) hx hb dL_look_19 (by decide) ?_
      exact ret 2 fO _ _ _ _ dL_look_20 (Or.inr (Or.inr ⟨hin, hno, rfl⟩)) hP1 hD1 hS1
  · obtain ⟨hP1, hD1⟩ := mB_join (wr := [lng cL aO fO]) hP hD [1, 2, 3, 4, 5, 6, 7, 8, 9, 10] [0] rfl rfl (by decide) (by decide) hFc ht hk1 hB
    have hP1 : va_P D vwCl (lng cL aO fO :: lkW aBK aT aTA aR aB aD0 aC aCE aD aD2 aPU aP aTD aTC aTK aTR aDY aCP aDB aCR aRK aLF fDB fCR fTK fRK fLF fDY fCP nm td np isd cI cZ) H1 := hP1
    have hD1 : va_D A (lng cL aO fO :: lkW aBK aT aTA aR aB aD0 aC aCE aD aD2 aPU aP aTD aTC aTK aTR aDY aCP aDB aCR aRK aLF fDB fCR fTK fRK fLF fDY fCP nm td np isd cI cZ) := hD1
    refine lv_i2l (v := r.toInt64) hx hb dL_look_8 rfl ?_
    refine va_last hx hb hK hP1 hD1 hS1 0 2 rfl rfl (show vp_in (nI 0) 1 from vp_in_nI (by decide) (by decide)) dL_look_9 (fun H2 locs2 hP2 hD2 hS2 => ?_)
    refine lv_goto (tgt := 21) hx hb dL_look_10 (by decide) ?_
    refine lv_iconst (v := 0) hx hb dL_look_21 (by decide) ?_
    exact ret 0 _ _ _ _ _ dL_look_22 (Or.inl ⟨hw.1, hw.2.1, rfl, by rw [← hw.2.2]; rfl⟩) hP2 hD2 hS2
end LLOOK
