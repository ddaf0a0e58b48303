/-! what stands outside the world: the String constants, statics of the JDK -/
abbrev lenS : List Nat := [3, 4, 5, 6, 13, 12]
abbrev bytS : List (List Int32) := [[99, 117, 116], [109, 111, 118, 101], [115, 112, 97, 114, 101], [98, 101, 102, 111, 114, 101], [110, 111, 32, 115, 117, 99, 104, 32, 112, 97, 112, 101, 114], [110, 111, 32, 115, 117, 99, 104, 32, 119, 104, 97, 116]]
def envS (ad av : Nat → Nat) (A : Nat → Prop) (U : State) (H : Heap) : Prop :=
  (vk_S 6 lenS bytS ad av A U H ∧ va_Z "java/lang/String" "COMPACT_STRINGS" "Z" (.int 1) A U H ∧ va_Zq "jdk/internal/util/Preconditions" "SIOOBE_FORMATTER" "Ljava/util/function/BiFunction;" A U H ∧ vx_Zq Bundle.tN "UNASSIGNED_STACK" Bundle.steD A U H ∧ vx_Zq Bundle.tN "SUPPRESSED_SENTINEL" Bundle.listD A U H) ∧
  (vk_R RX4 58 "cut" (ad 0) U ∧ vk_R RX4 67 "move" (ad 1) U ∧ vk_R RX4 72 "spare" (ad 2) U ∧ vk_R RX4 77 "before" (ad 3) U ∧ vk_R RX7 99 "no such paper" (ad 4) U ∧ vk_R RX7 106 "no such what" (ad 5) U) ∧ va_Nc "java/util/NoSuchElementException" "java/lang/IndexOutOfBoundsException" U
section ENVS
variable {ad av : Nat → Nat} {A B : Nat → Prop} {s U : State} {H H1 : Heap}
theorem envS.warm (hW : s.WarmedH U.vm) (h : envS ad av A s H) : envS ad av A U H := by
  obtain ⟨⟨h1, h2, h3, h4, h5⟩, ⟨r1, r2, r3, r4, r5, r6⟩, hn⟩ := h
  exact ⟨⟨h1.moved hW.alike, h2.moved hW.alike, h3.moved hW.alike, h4.moved hW.alike, h5.moved hW.alike⟩, ⟨r1.warm hW, r2.warm hW, r3.warm hW, r4.warm hW, r5.warm hW, r6.warm hW⟩, hn.moved hW.alike⟩
theorem envS.same (hv : s.vm = U.vm) (h : envS ad av A s H) : envS ad av A U H := by
  obtain ⟨⟨h1, h2, h3, h4, h5⟩, ⟨r1, r2, r3, r4, r5, r6⟩, hn⟩ := h
  have ha : s.vm.Alike U.vm := by rw [hv]; exact Vm.Alike.refl _
  exact ⟨⟨h1.moved ha, h2.moved ha, h3.moved ha, h4.moved ha, h5.moved ha⟩, ⟨r1.same hv.symm, r2.same hv.symm, r3.same hv.symm, r4.same hv.symm, r5.same hv.symm, r6.same hv.symm⟩, hn.moved ha⟩
theorem envS.kept (h : envS ad av A U H) (hq : ∀ a : Nat, a < H.size → ¬ A a → H1[a]? = H[a]?) : envS ad av A U H1 :=
  ⟨⟨h.1.1.kept hq, h.1.2.1.kept hq, h.1.2.2.1.kept hq, h.1.2.2.2.1.kept hq, h.1.2.2.2.2.kept hq⟩, h.2⟩
theorem envS.narrow (h : envS ad av A U H) (hAB : ∀ q, B q → A q) : envS ad av B U H :=
  ⟨⟨h.1.1.narrow hAB, h.1.2.1.narrow hAB, h.1.2.2.1.narrow hAB, h.1.2.2.2.1.narrow hAB, h.1.2.2.2.2.narrow hAB⟩, h.2⟩
end ENVS
def mPcE (D : va_G) (cI cZ : ClassId) (ad adv : Nat → Nat) (av : List Value) (sz : Nat) (ws : va_W) : Array Value → State → Prop :=
  va_Pc av (fun U => U.heap.size = sz ∧ nest U ∧ va_P D vwCl ws U.heap ∧ va_K D vwCl (tyL cI cZ) U ∧ va_D (fun _ => True) ws ∧ envS ad adv (va_A ws sz) U U.heap)
def MIE (l : Launch) (y : MethodName) (ws : List Cond) (rm : Room) (D : va_G) (cI cZ : ClassId) (ad adv : Nat → Nat) (av : List Value) (wc : va_W) {S : Type} (post : Int32 → S → Prop) (w : S → va_W) (mc ms : Nat) : Prop :=
  ∀ sz : Nat, Met l y ws rm (mPcE D cI cZ ad adv av sz wc) (va_Qi post (mB D cI cZ (va_A wc sz) w) (va_A wc sz)) mc ms (va_A wc sz)
def MVE (l : Launch) (y : MethodName) (ws : List Cond) (rm : Room) (D : va_G) (cI cZ : ClassId) (ad adv : Nat → Nat) (av : List Value) (wc : va_W) {S : Type} (post : S → Prop) (w : S → va_W) (mc ms : Nat) : Prop :=
  ∀ sz : Nat, Met l y ws rm (mPcE D cI cZ ad adv av sz wc) (va_Qv post (mB D cI cZ (va_A wc sz) w) (va_A wc sz)) mc ms (va_A wc sz)
theorem mPcE_blind {D : va_G} {cI cZ : ClassId} {ad adv : Nat → Nat} {av : List Value} {sz : Nat} {ws : va_W} : FrameBlind (mPcE D cI cZ ad adv av sz ws) := by
  intro a U g mk q
  obtain ⟨q0, q1, qN, qP, qK, qD, qE⟩ := q
  exact ⟨q0, q1, nest_same (u := U) (U := U.calling g mk a) rfl qN, qP, va_K.moved (u := U) (U := U.calling g mk a) (Vm.Alike.refl U.vm) qK, qD, envS.same (s := U) (U := U.calling g mk a) rfl qE⟩
section MOFE
variable {l : Launch} {y : MethodName} {ws ws' : List Cond} {rm : Room} {D : va_G} {cI cZ : ClassId} {ad adv : Nat → Nat} {av : List Value} {wc : va_W} {S : Type} {w : S → va_W} {mc ms : Nat} {cc : ByteArray} {maxL : Nat} {ty : FieldType}
theorem MIE.ofT {post : Int32 → S → Prop} (hy : plainName y.cls = true) (hw : ws = Cond.code y cc maxL (some ty) :: ws') (hlen : (lg_sl av).length ≤ maxL)
    (body : ∀ (p : Program) (e : Env) (s : State) (m : MethodId) (below : List Frame) (meth : Method) (c : Code) (A : Nat → Prop) (Q : State → Prop),
      p.tables.exec = Jvm.exec → c.code = cc → c.maxLocals = maxL → s.vm.findClass y.cls = some m.cls → (∀ w ∈ ws, w.before av.toArray s = true) → nest s → va_K D vwCl (tyL cI cZ) s → (∀ q : Nat, s.heap.size ≤ q → A q) → envS ad adv A s s.heap →
      (∀ (v : Int32) (u : S) (H : Heap) (locs : List Loc) (pc : Nat) (ls : Array Slot), decode cc pc = .ok (.ireturn, 1) → narrow ty (.int v) = .int v → post v u → va_P D vwCl (w u) H → va_D A (w u) → va_S A s.heap H locs → W p l e rm s m av.toArray below meth c H locs mc ms Q (F0 m pc ls [.int v])) →
      va_P D vwCl wc s.heap → va_D A wc → va_S A s.heap s.heap [] → ∀ ls : Array Slot, lv_has ls maxL (lv_args 0 av) → W p l e rm s m av.toArray below meth c s.heap [] 0 0 Q (F0 m 0 ls [])) : MIE l y ws rm D cI cZ ad adv av wc post w mc ms := by
  intro sz
  refine Met.ofW (cc := cc) (maxL := maxL) (ret := some ty) hy hw ?_
  intro p e s m args below meth c s₁ B hml hv
  obtain ⟨rfl, hsz, hN, hP, hK, hD0, hE⟩ := hv
  have hts := atoms_spec (ws := ws) B.pre
  subst hsz
  have hD := hD0.self (sz := s.heap.size)
  have hl := lv_entry av (n := maxL) hlen
  rw [lg_entry_eq]
  exact body p e s m below meth c (va_A wc s.heap.size) _ B.exec B.bytes hml (findClass_of_methodNamed B.named) hts hN hK (fun q h => Or.inr h) hE
    (fun v u H locs pc ls hd hz hp hP hD hS => W.zret B.exec B.bytes B.returns hz (fun t ht hW => ⟨⟨v, u, rfl, hp, by rw [ht]; exact hP, va_K.moved hW.alike hK, hD⟩, hS.F ht⟩) hS.2.2 hd (hlocks := B.notSynchronized)) hP hD va_S.rf _ hl
theorem MIE.of {post : Int32 → S → Prop} (hy : plainName y.cls = true) (hw : ws = Cond.code y cc maxL (some .int) :: ws') (hlen : (lg_sl av).length ≤ maxL)
    (body : ∀ (p : Program) (e : Env) (s : State) (m : MethodId) (below : List Frame) (meth : Method) (c : Code) (A : Nat → Prop) (Q : State → Prop),
      p.tables.exec = Jvm.exec → c.code = cc → c.maxLocals = maxL → s.vm.findClass y.cls = some m.cls → (∀ w ∈ ws, w.before av.toArray s = true) → nest s → va_K D vwCl (tyL cI cZ) s → (∀ q : Nat, s.heap.size ≤ q → A q) → envS ad adv A s s.heap →
      (∀ (v : Int32) (u : S) (H : Heap) (locs : List Loc) (pc : Nat) (ls : Array Slot), decode cc pc = .ok (.ireturn, 1) → post v u → va_P D vwCl (w u) H → va_D A (w u) → va_S A s.heap H locs → W p l e rm s m av.toArray below meth c H locs mc ms Q (F0 m pc ls [.int v])) →
      va_P D vwCl wc s.heap → va_D A wc → va_S A s.heap s.heap [] → ∀ ls : Array Slot, lv_has ls maxL (lv_args 0 av) → W p l e rm s m av.toArray below meth c s.heap [] 0 0 Q (F0 m 0 ls [])) : MIE l y ws rm D cI cZ ad adv av wc post w mc ms :=
  MIE.ofT hy hw hlen (fun p e s m below meth c A Q hx hb hml hown hts hN hK hA hE ret => body p e s m below meth c A Q hx hb hml hown hts hN hK hA hE (fun v u H locs pc ls hd => ret v u H locs pc ls hd rfl))
theorem MIE.ofZ {post : Int32 → S → Prop} (hy : plainName y.cls = true) (hw : ws = Cond.code y cc maxL (some .boolean) :: ws') (hlen : (lg_sl av).length ≤ maxL)
    (body : ∀ (p : Program) (e : Env) (s : State) (m : MethodId) (below : List Frame) (meth : Method) (c : Code) (A : Nat → Prop) (Q : State → Prop),
      p.tables.exec = Jvm.exec → c.code = cc → c.maxLocals = maxL → s.vm.findClass y.cls = some m.cls → (∀ w ∈ ws, w.before av.toArray s = true) → nest s → va_K D vwCl (tyL cI cZ) s → (∀ q : Nat, s.heap.size ≤ q → A q) → envS ad adv A s s.heap →
      (∀ (v : Int32) (u : S) (H : Heap) (locs : List Loc) (pc : Nat) (ls : Array Slot), decode cc pc = .ok (.ireturn, 1) → (v = 0 ∨ v = 1) → post v u → va_P D vwCl (w u) H → va_D A (w u) → va_S A s.heap H locs → W p l e rm s m av.toArray below meth c H locs mc ms Q (F0 m pc ls [.int v])) →
      va_P D vwCl wc s.heap → va_D A wc → va_S A s.heap s.heap [] → ∀ ls : Array Slot, lv_has ls maxL (lv_args 0 av) → W p l e rm s m av.toArray below meth c s.heap [] 0 0 Q (F0 m 0 ls [])) : MIE l y ws rm D cI cZ ad adv av wc post w mc ms :=
  MIE.ofT hy hw hlen (fun p e s m below meth c A Q hx hb hml hown hts hN hK hA hE ret => body p e s m below meth c A Q hx hb hml hown hts hN hK hA hE (fun v u H locs pc ls hd hz => ret v u H locs pc ls hd (by rcases hz with rfl | rfl <;> rfl)))
theorem MVE.of {post : S → Prop} (hy : plainName y.cls = true) (hw : ws = Cond.code y cc maxL none :: ws') (hlen : (lg_sl av).length ≤ maxL)
    (body : ∀ (p : Program) (e : Env) (s : State) (m : MethodId) (below : List Frame) (meth : Method) (c : Code) (A : Nat → Prop) (Q : State → Prop),
      p.tables.exec = Jvm.exec → c.code = cc → c.maxLocals = maxL → s.vm.findClass y.cls = some m.cls → (∀ w ∈ ws, w.before av.toArray s = true) → nest s → va_K D vwCl (tyL cI cZ) s → (∀ q : Nat, s.heap.size ≤ q → A q) → envS ad adv A s s.heap →
      (∀ (u : S) (H : Heap) (locs : List Loc) (pc : Nat) (ls : Array Slot), decode cc pc = .ok (.return_, 1) → post u → va_P D vwCl (w u) H → va_D A (w u) → va_S A s.heap H locs → W p l e rm s m av.toArray below meth c H locs mc ms Q (F0 m pc ls [])) →
      va_P D vwCl wc s.heap → va_D A wc → va_S A s.heap s.heap [] → ∀ ls : Array Slot, lv_has ls maxL (lv_args 0 av) → meth.name = y.name → W p l e rm s m av.toArray below meth c s.heap [] 0 0 Q (F0 m 0 ls [])) : MVE l y ws rm D cI cZ ad adv av wc post w mc ms := by
  intro sz
  refine Met.ofW (cc := cc) (maxL := maxL) (ret := none) hy hw ?_
  intro p e s m args below meth c s₁ B hml hv
  obtain ⟨rfl, hsz, hN, hP, hK, hD0, hE⟩ := hv
  have hts := atoms_spec (ws := ws) B.pre
  subst hsz
  have hD := hD0.self (sz := s.heap.size)
  have hl := lv_entry av (n := maxL) hlen
  rw [lg_entry_eq]
  exact body p e s m below meth c (va_A wc s.heap.size) _ B.exec B.bytes hml (findClass_of_methodNamed B.named) hts hN hK (fun q h => Or.inr h) hE
    (fun u H locs pc ls hd hp hP hD hS => W.vret B.exec B.bytes B.returns (fun t ht hW => ⟨⟨u, rfl, hp, by rw [ht]; exact hP, va_K.moved hW.alike hK, hD⟩, hS.F ht⟩) hS.2.2 hd (hlocks := B.notSynchronized)) hP hD va_S.rf _ hl (name_of_methodNamed B.named B.method).1
end MOFE
section MCALLE
variable {p : Program} {l : Launch} {e : Env} {R : Room} {s : State} {m : MethodId} {args : Array Value} {below : List Frame} {meth : Method} {c : Code} {H : Heap} {locs : List Loc} {cells slots : Nat} {Q : State → Prop}
variable {y : MethodName} {bytes cc : ByteArray} {maxL nL mc ms n index ci b : Nat} {ret : Option FieldType} {wsM Ts : List Cond} {rm : Room} {own C host : String} {As rest st fs : List Value} {pc : Nat} {ls : Array Slot} {A : Nat → Prop}
variable {D : va_G} {cI cZ : ClassId} {ad adv : Nat → Nat} {ws wc wr : va_W} {S : Type} {w : S → va_W} {vq : vw_C}
theorem mPcE_pre (hN : nest s) (hK : va_K D vwCl (tyL cI cZ) s) (hE : envS ad adv A s s.heap) (hS : va_S A s.heap H locs) (hF : ∀ q, va_A wc H.size q → A q) (hPc : va_P D vwCl wc H) (hDc : va_D A wc) {av : List Value} : ∀ U : State, U.heap = H → s.WarmedH U.vm → mPcE D cI cZ ad adv av H.size wc av.toArray U := fun U hU hW =>
  ⟨rfl, by rw [hU], nest_warm hW hN, by rw [hU]; exact hPc, va_K.moved hW.alike hK, hDc.weaken (fun _ _ _ _ => trivial), by rw [hU]; exact ((hE.kept hS.2.1).narrow hF).warm hW⟩
theorem m_cViE {post : Int32 → S → Prop} (FX : CallFix p m c cc nL s args Ts own) (hM : MIE l y wsM rm D cI cZ ad adv (.ref b :: As) wc post w mc ms) (cw : CallW R s args own C index y bytes maxL ret wsM rm mc ms n)
    (hN : nest s) (hK : va_K D vwCl (tyL cI cZ) s) (hP : va_P D vwCl ws H) (hD : va_D A ws) (hS : va_S A s.heap H locs) (hA : ∀ q, s.heap.size ≤ q → A q) (hE : envS ad adv A s s.heap)
    (isC isR : List Nat) (hC : isC.map (fun i => ws[i]?) = wc.map some) (hR : isR.map (fun i => ws[i]?) = wr.map some) (hnc : va_nd isC = true) (hnr : va_nd isR = true) (hdis : ∀ i ∈ isR, i ∉ isC)
    (hrec : ∃ cell : Cell, H[b]? = some cell ∧ cell.vm.isStatics = false ∧ s.vm.findClass C = some cell.cls)
    (hn : As.length = n) (hsz : ls.size = nL) (hst : st = As.reverse ++ .ref b :: rest) (hW : (rest.map fun v => v.category).sum ≤ 8) (hdg : decode cc pc = .ok (.invokevirtual index, 3)) (hf : cells + mc ≤ R.cells ∧ slots + ms ≤ R.slots)
    (kk : ∀ (r : Int32) (u : S) (H1 : Heap) (locs1 : List Loc), post r u → va_P D vwCl (wr ++ w u) H1 → va_D A (wr ++ w u) → va_S A s.heap H1 locs1 → W p l e R s m args below meth c H1 locs1 (cells + mc) (slots + ms) Q (F0 m (pc + 3) ls (.int r :: rest))) :
    W p l e R s m args below meth c H locs cells slots Q (F0 m pc ls st) := by
  have hPc := hP.sub (ws' := wc) isC (fm_of_map hC)
  have hDc := hD.sub (ws' := wc) isC hnc hC
  have hFc := va_free (wc := wc) hD hS hA isC hC
  refine va_calli (va_runV (As := As) (rest := rest) FX (hM H.size) cw ⟨mPcE_blind, hrec, mPcE_pre hN hK hE hS hFc hPc hDc⟩ rfl hn hsz hst (lv_room hW) hdg hf) hS (fun q _ h => hFc q h) hFc (fun r u t H1 locs1 ht hvm hw hB hz1 hk1 hS1 => ?_)
  obtain ⟨hP1, hD1⟩ := mB_join hP hD isC isR hC hR hnr hdis hFc ht hk1 hB
  exact kk r u H1 locs1 hw hP1 hD1 hS1
theorem m_cVvE {post : S → Prop} (FX : CallFix p m c cc nL s args Ts own) (hM : MVE l y wsM rm D cI cZ ad adv (.ref b :: As) wc post w mc ms) (cw : CallW R s args own C index y bytes maxL ret wsM rm mc ms n)
    (hN : nest s) (hK : va_K D vwCl (tyL cI cZ) s) (hP : va_P D vwCl ws H) (hD : va_D A ws) (hS : va_S A s.heap H locs) (hA : ∀ q, s.heap.size ≤ q → A q) (hE : envS ad adv A s s.heap)
    (isC isR : List Nat) (hC : isC.map (fun i => ws[i]?) = wc.map some) (hR : isR.map (fun i => ws[i]?) = wr.map some) (hnc : va_nd isC = true) (hnr : va_nd isR = true) (hdis : ∀ i ∈ isR, i ∉ isC)
    (hrec : ∃ cell : Cell, H[b]? = some cell ∧ cell.vm.isStatics = false ∧ s.vm.findClass C = some cell.cls)
    (hn : As.length = n) (hsz : ls.size = nL) (hst : st = As.reverse ++ .ref b :: rest) (hW : (rest.map fun v => v.category).sum ≤ 8) (hdg : decode cc pc = .ok (.invokevirtual index, 3)) (hf : cells + mc ≤ R.cells ∧ slots + ms ≤ R.slots)
    (kk : ∀ (u : S) (H1 : Heap) (locs1 : List Loc), post u → va_P D vwCl (wr ++ w u) H1 → va_D A (wr ++ w u) → va_S A s.heap H1 locs1 → W p l e R s m args below meth c H1 locs1 (cells + mc) (slots + ms) Q (F0 m (pc + 3) ls rest)) :
    W p l e R s m args below meth c H locs cells slots Q (F0 m pc ls st) := by
  have hPc := hP.sub (ws' := wc) isC (fm_of_map hC)
  have hDc := hD.sub (ws' := wc) isC hnc hC
  have hFc := va_free (wc := wc) hD hS hA isC hC
  refine va_callv (va_runV (As := As) (rest := rest) FX (hM H.size) cw ⟨mPcE_blind, hrec, mPcE_pre hN hK hE hS hFc hPc hDc⟩ rfl hn hsz hst (lv_room hW) hdg hf) hS (fun q _ h => hFc q h) hFc (fun u t H1 locs1 ht hvm hw hB hz1 hk1 hS1 => ?_)
  obtain ⟨hP1, hD1⟩ := mB_join hP hD isC isR hC hR hnr hdis hFc ht hk1 hB
  exact kk u H1 locs1 hw hP1 hD1 hS1
theorem m_cSiE {post : Int32 → S → Prop} (FX : CallFix p m c cc nL s args Ts own) (hM : MIE l y wsM rm D cI cZ ad adv As wc post w mc ms) (cw : CallB R s args own index y bytes maxL ret wsM rm mc ms n ∧ (Cond.static y).before args s = true)
    (hN : nest s) (hK : va_K D vwCl (tyL cI cZ) s) (hP : va_P D vwCl ws H) (hD : va_D A ws) (hS : va_S A s.heap H locs) (hA : ∀ q, s.heap.size ≤ q → A q) (hE : envS ad adv A s s.heap)
    (isC isR : List Nat) (hC : isC.map (fun i => ws[i]?) = wc.map some) (hR : isR.map (fun i => ws[i]?) = wr.map some) (hnc : va_nd isC = true) (hnr : va_nd isR = true) (hdis : ∀ i ∈ isR, i ∉ isC)
    (hn : As.length = n) (hsz : ls.size = nL) (hst : st = As.reverse ++ rest) (hW : (rest.map fun v => v.category).sum ≤ 8) (hdg : decode cc pc = .ok (.invokestatic index, 3)) (hf : cells + mc ≤ R.cells ∧ slots + ms ≤ R.slots)
    (kk : ∀ (r : Int32) (u : S) (H1 : Heap) (locs1 : List Loc), post r u → va_P D vwCl (wr ++ w u) H1 → va_D A (wr ++ w u) → va_S A s.heap H1 locs1 → W p l e R s m args below meth c H1 locs1 (cells + mc) (slots + ms) Q (F0 m (pc + 3) ls (.int r :: rest))) :
    W p l e R s m args below meth c H locs cells slots Q (F0 m pc ls st) := by
  have hPc := hP.sub (ws' := wc) isC (fm_of_map hC)
  have hDc := hD.sub (ws' := wc) isC hnc hC
  have hFc := va_free (wc := wc) hD hS hA isC hC
  refine va_calli (va_runS (As := As) (rest := rest) FX (hM H.size) cw ⟨mPcE_blind, mPcE_pre hN hK hE hS hFc hPc hDc⟩ rfl hn hsz hst (lv_room hW) hdg hf) hS (fun q _ h => hFc q h) hFc (fun r u t H1 locs1 ht hvm hw hB hz1 hk1 hS1 => ?_)
  obtain ⟨hP1, hD1⟩ := mB_join hP hD isC isR hC hR hnr hdis hFc ht hk1 hB
  exact kk r u H1 locs1 hw hP1 hD1 hS1
theorem m_cSvE {post : S → Prop} (FX : CallFix p m c cc nL s args Ts own) (hM : MVE l y wsM rm D cI cZ ad adv As wc post w mc ms) (cw : CallB R s args own index y bytes maxL ret wsM rm mc ms n ∧ (Cond.static y).before args s = true)
    (hN : nest s) (hK : va_K D vwCl (tyL cI cZ) s) (hP : va_P D vwCl ws H) (hD : va_D A ws) (hS : va_S A s.heap H locs) (hA : ∀ q, s.heap.size ≤ q → A q) (hE : envS ad adv A s s.heap)
    (isC isR : List Nat) (hC : isC.map (fun i => ws[i]?) = wc.map some) (hR : isR.map (fun i => ws[i]?) = wr.map some) (hnc : va_nd isC = true) (hnr : va_nd isR = true) (hdis : ∀ i ∈ isR, i ∉ isC)
    (hn : As.length = n) (hsz : ls.size = nL) (hst : st = As.reverse ++ rest) (hW : (rest.map fun v => v.category).sum ≤ 8) (hdg : decode cc pc = .ok (.invokestatic index, 3)) (hf : cells + mc ≤ R.cells ∧ slots + ms ≤ R.slots)
    (kk : ∀ (u : S) (H1 : Heap) (locs1 : List Loc), post u → va_P D vwCl (wr ++ w u) H1 → va_D A (wr ++ w u) → va_S A s.heap H1 locs1 → W p l e R s m args below meth c H1 locs1 (cells + mc) (slots + ms) Q (F0 m (pc + 3) ls rest)) :
    W p l e R s m args below meth c H locs cells slots Q (F0 m pc ls st) := by
  have hPc := hP.sub (ws' := wc) isC (fm_of_map hC)
  have hDc := hD.sub (ws' := wc) isC hnc hC
  have hFc := va_free (wc := wc) hD hS hA isC hC
  refine va_callv (va_runS (As := As) (rest := rest) FX (hM H.size) cw ⟨mPcE_blind, mPcE_pre hN hK hE hS hFc hPc hDc⟩ rfl hn hsz hst (lv_room hW) hdg hf) hS (fun q _ h => hFc q h) hFc (fun u t H1 locs1 ht hvm hw hB hz1 hk1 hS1 => ?_)
  obtain ⟨hP1, hD1⟩ := mB_join hP hD isC isR hC hR hnr hdis hFc ht hk1 hB
  exact kk u H1 locs1 hw hP1 hD1 hS1
end MCALLE
/-! the JDK's own methods on String constants -/
def chS (i k : Nat) : Int32 := (bytS.getD i []).getD k 0
theorem chS_255 : ∀ i, i < 6 → ∀ k, k < lenS.getD i 0 → ((chS i k &&& 255).toUInt32 % 65536).toInt32 = chS i k ∧ narrow .char (.int (chS i k)) = .int (chS i k) := by decide
theorem lenS_shr : ∀ i, i < 6 → Int32.ofNat (lenS.getD i 0) >>> ((0 : Int32) &&& 31) = nI (lenS.getD i 0) := by decide
theorem lenS_lt : ∀ i, i < 6 → lenS.getD i 0 < 14 := by decide
section JDK
variable (l : Launch) (D : va_G) (cI cZ : ClassId) (ad adv : Nat → Nat)
abbrev r_J0 : Room := { frames := 0, cells := 0, slots := 0, locals := 0 }
theorem c_J0_coder (i : Nat) (hi : i < 6) : MIE l yJ0_coder_7d493 wsJ0_coder_7d493 r_J0 D cI cZ ad adv [.ref (ad i)] [] (fun (r : Int32) (_ : Unit) => r = 0) (fun _ => []) 0 0 := by
  refine MIE.ofT (cc := cJ0_coder_7d493) (maxL := 1) (by decide) rfl (Nat.le_of_ble_eq_true rfl) ?_
  intro p e s m below meth c A Q hx hb hml hown hts hN hK hA hE ret hP hD hS ls hl
  have hown : s.vm.findClass RJ0 = some m.cls := hown
  have hl : lv_has ls 1 [(0, .ref (ad i))] := hl
  refine va_gets hx hb hE.1.2.1 hS hown (hts (.fieldLink RJ0 38 "java/lang/String" "COMPACT_STRINGS" "Z") (by decide +kernel)) (fun _ h9 => h9) dJ0_coder_7d493_0 ?_
  refine lv_if_eq (tgt := 13) hx hb dJ0_coder_7d493_3 (by decide) (fun q => absurd q (by decide)) (fun _ => ?_)
  refine lv_aload_n hx hb dJ0_coder_7d493_6 rfl (lv_at hl 0 rfl) ?_
  refine vk_getf hx hb (hE.1.1.1 i hi).2.1 hS hown (hts (.fieldLink RJ0 15 "java/lang/String" "coder" "B") (by decide +kernel)) (fun _ h9 => h9) dJ0_coder_7d493_7 ?_
  refine lv_goto (tgt := 14) hx hb dJ0_coder_7d493_10 (by decide) ?_
  exact ret 0 () _ _ _ _ dJ0_coder_7d493_14 rfl rfl hP hD hS
theorem c_J0_isLatin1 (i : Nat) (hi : i < 6) : MIE l yJ0_isLatin1_aae02 wsJ0_isLatin1_aae02 r_J0 D cI cZ ad adv [.ref (ad i)] [] (fun (r : Int32) (_ : Unit) => r = 1) (fun _ => []) 0 0 := by
  refine MIE.ofT (cc := cJ0_isLatin1_aae02) (maxL := 1) (by decide) rfl (Nat.le_of_ble_eq_true rfl) ?_
  intro p e s m below meth c A Q hx hb hml hown hts hN hK hA hE ret hP hD hS ls hl
  have hown : s.vm.findClass RJ0 = some m.cls := hown
  have hl : lv_has ls 1 [(0, .ref (ad i))] := hl
  refine va_gets hx hb hE.1.2.1 hS hown (hts (.fieldLink RJ0 38 "java/lang/String" "COMPACT_STRINGS" "Z") (by decide +kernel)) (fun _ h9 => h9) dJ0_isLatin1_aae02_0 ?_
  refine lv_if_eq (tgt := 17) hx hb dJ0_isLatin1_aae02_3 (by decide) (fun q => absurd q (by decide)) (fun _ => ?_)
  refine lv_aload_n hx hb dJ0_isLatin1_aae02_6 rfl (lv_at hl 0 rfl) ?_
  refine vk_getf hx hb (hE.1.1.1 i hi).2.1 hS hown (hts (.fieldLink RJ0 15 "java/lang/String" "coder" "B") (by decide +kernel)) (fun _ h9 => h9) dJ0_isLatin1_aae02_7 ?_
  refine lv_if_ne (tgt := 17) hx hb dJ0_isLatin1_aae02_10 (by decide) (fun q => absurd rfl q) (fun _ => ?_)
  refine lv_iconst (v := 1) hx hb dJ0_isLatin1_aae02_13 (by decide) ?_
  refine lv_goto (tgt := 18) hx hb dJ0_isLatin1_aae02_14 (by decide) ?_
  exact ret 1 () _ _ _ _ dJ0_isLatin1_aae02_18 rfl rfl hP hD hS
abbrev r_J0l : Room := { frames := 1, cells := 0, slots := 0, locals := 20 }
theorem c_J0_length (i : Nat) (hi : i < 6) : MIE l yJ0_length_8abf5 wsJ0_length_8abf5 r_J0l D cI cZ ad adv [.ref (ad i)] [] (fun (r : Int32) (_ : Unit) => r = nI (lenS.getD i 0)) (fun _ => []) 0 0 := by
  refine MIE.ofT (cc := cJ0_length_8abf5) (maxL := 1) (by decide) rfl (Nat.le_of_ble_eq_true rfl) ?_
  intro p e s m below meth c A Q hx hb hml hown hts hN hK hA hE ret hP hD hS ls hl
  have hown : s.vm.findClass RJ0 = some m.cls := hown
  have hl : lv_has ls 1 [(0, .ref (ad i))] := hl
  refine lv_aload_n hx hb dJ0_length_8abf5_0 rfl (lv_at hl 0 rfl) ?_
  refine vk_getf hx hb (hE.1.1.1 i hi).2.2.1 hS hown (hts (.fieldLink RJ0 9 "java/lang/String" "value" "[B") (by decide +kernel)) (fun _ h9 => h9) dJ0_length_8abf5_1 ?_
  refine va_tlen hx hb (hE.1.1.1 i hi).2.2.2 hS rfl dJ0_length_8abf5_4 ?_
  refine lv_aload_n hx hb dJ0_length_8abf5_5 rfl (lv_at hl 0 rfl) ?_
  refine m_cViE (As := []) (rest := [.int (Int32.ofNat (lenS.getD i 0))]) (wr := []) ⟨hx, hb, hml, hown, hts⟩ (c_J0_coder l D cI cZ ad adv i hi) (cwV 0 hts gJ0_length_8abf5_J0_coder_7d493 rfl rfl rfl (by decide +kernel) ⟨Nat.le_of_ble_eq_true rfl, Nat.le_of_ble_eq_true rfl⟩) hN hK hP hD hS hA hE [] [] rfl rfl (by decide) (by decide) (by decide) (vk_recv hE.1.1 hi hS) rfl hl.1 rfl (Nat.le_of_ble_eq_true rfl) dJ0_length_8abf5_6 ⟨Nat.le_of_ble_eq_true rfl, Nat.le_of_ble_eq_true rfl⟩ (fun r u H locs hq hP hD hS => ?_)
  have hq : r = 0 := hq
  subst hq
  refine lv_ishr hx hb dJ0_length_8abf5_9 ?_
  rw [lenS_shr i hi]
  exact ret _ () _ _ _ _ dJ0_length_8abf5_10 rfl rfl hP hD hS
abbrev r_J3 : Room := { frames := 0, cells := 0, slots := 0, locals := 0 }
theorem c_J3_nul (k n : Nat) (hk : k < n) (hn : n < 14) : MIE l yJ3_checkIndex_8e157 wsJ3_checkIndex_8e157 r_J3 D cI cZ ad adv [.int (nI k), .int (nI n), .null] [] (fun (_ : Int32) (_ : Unit) => True) (fun _ => []) 0 0 := by
  refine MIE.ofT (cc := cJ3_checkIndex_8e157) (maxL := 3) (by decide) rfl (Nat.le_of_ble_eq_true rfl) ?_
  intro p e s m below meth c A Q hx hb hml hown hts hN hK hA hE ret hP hD hS ls hl
  have hl : lv_has ls 3 [(0, .int (nI k)), (1, .int (nI n)), (2, .null)] := hl
  refine lv_iload_n hx hb dJ3_checkIndex_8e157_0 rfl (lv_at hl 0 rfl) ?_
  refine lv_if_lt (tgt := 9) hx hb dJ3_checkIndex_8e157_1 (by decide) (fun q => absurd q (nI_pos (by omega))) (fun _ => ?_)
  refine lv_iload_n hx hb dJ3_checkIndex_8e157_4 rfl (lv_at hl 0 rfl) ?_
  refine lv_iload_n hx hb dJ3_checkIndex_8e157_5 rfl (lv_at hl 1 rfl) ?_
  refine lv_icmp_lt (tgt := 16) hx hb dJ3_checkIndex_8e157_6 (by decide) (fun _ => ?_) (fun q => absurd ((nI_ltI (by omega) (by omega)).mpr hk) q)
  refine lv_iload_n hx hb dJ3_checkIndex_8e157_16 rfl (lv_at hl 0 rfl) ?_
  exact ret _ () _ _ _ _ dJ3_checkIndex_8e157_17 rfl trivial hP hD hS
theorem c_J3_ref (k n t9 : Nat) (hk : k < n) (hn : n < 14) : MIE l yJ3_checkIndex_8e157 wsJ3_checkIndex_8e157 r_J3 D cI cZ ad adv [.int (nI k), .int (nI n), .ref t9] [] (fun (_ : Int32) (_ : Unit) => True) (fun _ => []) 0 0 := by
  refine MIE.ofT (cc := cJ3_checkIndex_8e157) (maxL := 3) (by decide) rfl (Nat.le_of_ble_eq_true rfl) ?_
  intro p e s m below meth c A Q hx hb hml hown hts hN hK hA hE ret hP hD hS ls hl
  have hl : lv_has ls 3 [(0, .int (nI k)), (1, .int (nI n)), (2, .ref t9)] := hl
  refine lv_iload_n hx hb dJ3_checkIndex_8e157_0 rfl (lv_at hl 0 rfl) ?_
  refine lv_if_lt (tgt := 9) hx hb dJ3_checkIndex_8e157_1 (by decide) (fun q => absurd q (nI_pos (by omega))) (fun _ => ?_)
  refine lv_iload_n hx hb dJ3_checkIndex_8e157_4 rfl (lv_at hl 0 rfl) ?_
  refine lv_iload_n hx hb dJ3_checkIndex_8e157_5 rfl (lv_at hl 1 rfl) ?_
  refine lv_icmp_lt (tgt := 16) hx hb dJ3_checkIndex_8e157_6 (by decide) (fun _ => ?_) (fun q => absurd ((nI_ltI (by omega) (by omega)).mpr hk) q)
  refine lv_iload_n hx hb dJ3_checkIndex_8e157_16 rfl (lv_at hl 0 rfl) ?_
  exact ret _ () _ _ _ _ dJ3_checkIndex_8e157_17 rfl trivial hP hD hS
abbrev r_J0k : Room := { frames := 1, cells := 0, slots := 0, locals := 22 }
theorem c_J0_checkIndex (k n : Nat) (hk : k < n) (hn : n < 14) : MVE l yJ0_checkIndex_df160 wsJ0_checkIndex_df160 r_J0k D cI cZ ad adv [.int (nI k), .int (nI n)] [] (fun (_ : Unit) => True) (fun _ => []) 0 0 := by
  refine MVE.of (cc := cJ0_checkIndex_df160) (maxL := 2) (by decide) rfl (Nat.le_of_ble_eq_true rfl) ?_
  intro p e s m below meth c A Q hx hb hml hown hts hN hK hA hE ret hP hD hS ls hl hmn
  have hown : s.vm.findClass RJ0 = some m.cls := hown
  have hl : lv_has ls 2 [(0, .int (nI k)), (1, .int (nI n))] := hl
  refine lv_iload_n hx hb dJ0_checkIndex_df160_0 rfl (lv_at hl 0 rfl) ?_
  refine lv_iload_n hx hb dJ0_checkIndex_df160_1 rfl (lv_at hl 1 rfl) ?_
  have fl := hts (.fieldLink RJ0 1053 "jdk/internal/util/Preconditions" "SIOOBE_FORMATTER" "Ljava/util/function/BiFunction;") (by decide +kernel)
  rcases hE.1.2.2.1 with hz | ⟨t9, hz⟩
  · refine va_gets hx hb hz hS hown fl (fun _ h9 => h9) dJ0_checkIndex_df160_2 ?_
    refine m_cSiE (As := [.int (nI k), .int (nI n), .null]) (rest := []) (wr := []) ⟨hx, hb, hml, hown, hts⟩ (c_J3_nul l D cI cZ ad adv k n hk hn) (va_cwS 3 hts gJ0_checkIndex_df160_J3_checkIndex_8e157 rfl rfl rfl (by decide +kernel) ⟨Nat.le_of_ble_eq_true rfl, Nat.le_of_ble_eq_true rfl⟩) hN hK hP hD hS hA hE [] [] rfl rfl (by decide) (by decide) (by decide) rfl hl.1 rfl (Nat.le_of_ble_eq_true rfl) dJ0_checkIndex_df160_5 ⟨Nat.le_of_ble_eq_true rfl, Nat.le_of_ble_eq_true rfl⟩ (fun r u H locs _ hP hD hS => ?_)
    refine lv_pop hx hb dJ0_checkIndex_df160_8 rfl ?_
    exact ret () _ _ _ _ dJ0_checkIndex_df160_9 trivial hP hD hS
  · refine va_gets hx hb hz hS hown fl (fun _ h9 => h9) dJ0_checkIndex_df160_2 ?_
    refine m_cSiE (As := [.int (nI k), .int (nI n), .ref t9]) (rest := []) (wr := []) ⟨hx, hb, hml, hown, hts⟩ (c_J3_ref l D cI cZ ad adv k n t9 hk hn) (va_cwS 3 hts gJ0_checkIndex_df160_J3_checkIndex_8e157 rfl rfl rfl (by decide +kernel) ⟨Nat.le_of_ble_eq_true rfl, Nat.le_of_ble_eq_true rfl⟩) hN hK hP hD hS hA hE [] [] rfl rfl (by decide) (by decide) (by decide) rfl hl.1 rfl (Nat.le_of_ble_eq_true rfl) dJ0_checkIndex_df160_5 ⟨Nat.le_of_ble_eq_true rfl, Nat.le_of_ble_eq_true rfl⟩ (fun r u H locs _ hP hD hS => ?_)
    refine lv_pop hx hb dJ0_checkIndex_df160_8 rfl ?_
    exact ret () _ _ _ _ dJ0_checkIndex_df160_9 trivial hP hD hS
abbrev r_J1 : Room := { frames := 2, cells := 0, slots := 0, locals := 43 }
theorem c_J1_charAt (i k : Nat) (hi : i < 6) (hk : k < lenS.getD i 0) : MIE l yJ1_charAt_3b067 wsJ1_charAt_3b067 r_J1 D cI cZ ad adv [.ref (adv i), .int (nI k)] [] (fun (r : Int32) (_ : Unit) => r = chS i k) (fun _ => []) 0 0 := by
  refine MIE.ofT (cc := cJ1_charAt_3b067) (maxL := 2) (by decide) rfl (Nat.le_of_ble_eq_true rfl) ?_
  intro p e s m below meth c A Q hx hb hml hown hts hN hK hA hE ret hP hD hS ls hl
  have hown : s.vm.findClass RJ1 = some m.cls := hown
  have hl : lv_has ls 2 [(0, .ref (adv i)), (1, .int (nI k))] := hl
  have hlt := lenS_lt i hi
  refine lv_iload_n hx hb dJ1_charAt_3b067_0 rfl (lv_at hl 1 rfl) ?_
  refine lv_aload_n hx hb dJ1_charAt_3b067_1 rfl (lv_at hl 0 rfl) ?_
  refine va_tlen hx hb (hE.1.1.1 i hi).2.2.2 hS rfl dJ1_charAt_3b067_2 ?_
  refine m_cSvE (As := [.int (nI k), .int (nI (lenS.getD i 0))]) (rest := []) (wr := []) ⟨hx, hb, hml, hown, hts⟩ (c_J0_checkIndex l D cI cZ ad adv k (lenS.getD i 0) hk hlt) (va_cwS 2 hts gJ1_charAt_3b067_J0_checkIndex_df160 rfl rfl rfl (by decide +kernel) ⟨Nat.le_of_ble_eq_true rfl, Nat.le_of_ble_eq_true rfl⟩) hN hK hP hD hS hA hE [] [] rfl rfl (by decide) (by decide) (by decide) rfl hl.1 rfl (Nat.le_of_ble_eq_true rfl) dJ1_charAt_3b067_3 ⟨Nat.le_of_ble_eq_true rfl, Nat.le_of_ble_eq_true rfl⟩ (fun u H locs _ hP hD hS => ?_)
  refine lv_aload_n hx hb dJ1_charAt_3b067_6 rfl (lv_at hl 0 rfl) ?_
  refine lv_iload_n hx hb dJ1_charAt_3b067_7 rfl (lv_at hl 1 rfl) ?_
  refine va_tb (v := .int (chS i k)) hx hb (hE.1.1.1 i hi).2.2.2 hS (vp_in_nI hk (by omega)) (by rw [nI_clamp (by omega)]; rfl) dJ1_charAt_3b067_8 ?_
  refine lv_sipush (v := 255) hx hb dJ1_charAt_3b067_9 (by decide) ?_
  refine lv_iand hx hb dJ1_charAt_3b067_12 ?_
  refine lv_i2c hx hb dJ1_charAt_3b067_13 (chS_255 i hi k hk).1 ?_
  exact ret _ () _ _ _ _ dJ1_charAt_3b067_14 (chS_255 i hi k hk).2 rfl hP hD hS
abbrev r_J0c : Room := { frames := 3, cells := 0, slots := 0, locals := 64 }
theorem c_J0_charAt (i k : Nat) (hi : i < 6) (hk : k < lenS.getD i 0) : MIE l yJ0_charAt_5068e wsJ0_charAt_5068e r_J0c D cI cZ ad adv [.ref (ad i), .int (nI k)] [] (fun (r : Int32) (_ : Unit) => r = chS i k) (fun _ => []) 0 0 := by
  refine MIE.ofT (cc := cJ0_charAt_5068e) (maxL := 2) (by decide) rfl (Nat.le_of_ble_eq_true rfl) ?_
  intro p e s m below meth c A Q hx hb hml hown hts hN hK hA hE ret hP hD hS ls hl
  have hown : s.vm.findClass RJ0 = some m.cls := hown
  have hl : lv_has ls 2 [(0, .ref (ad i)), (1, .int (nI k))] := hl
  refine lv_aload_n hx hb dJ0_charAt_5068e_0 rfl (lv_at hl 0 rfl) ?_
  refine m_cViE (As := []) (rest := []) (wr := []) ⟨hx, hb, hml, hown, hts⟩ (c_J0_isLatin1 l D cI cZ ad adv i hi) (cwV 0 hts gJ0_charAt_5068e_J0_isLatin1_aae02 rfl rfl rfl (by decide +kernel) ⟨Nat.le_of_ble_eq_true rfl, Nat.le_of_ble_eq_true rfl⟩) hN hK hP hD hS hA hE [] [] rfl rfl (by decide) (by decide) (by decide) (vk_recv hE.1.1 hi hS) rfl hl.1 rfl (Nat.le_of_ble_eq_true rfl) dJ0_charAt_5068e_1 ⟨Nat.le_of_ble_eq_true rfl, Nat.le_of_ble_eq_true rfl⟩ (fun r u H locs hq hP hD hS => ?_)
  have hq : r = 1 := hq
  subst hq
  refine lv_if_eq (tgt := 16) hx hb dJ0_charAt_5068e_4 (by decide) (fun q => absurd q (by decide)) (fun _ => ?_)
  refine lv_aload_n hx hb dJ0_charAt_5068e_7 rfl (lv_at hl 0 rfl) ?_
  refine vk_getf hx hb (hE.1.1.1 i hi).2.2.1 hS hown (hts (.fieldLink RJ0 9 "java/lang/String" "value" "[B") (by decide +kernel)) (fun _ h9 => h9) dJ0_charAt_5068e_8 ?_
  refine lv_iload_n hx hb dJ0_charAt_5068e_11 rfl (lv_at hl 1 rfl) ?_
  refine m_cSiE (As := [.ref (adv i), .int (nI k)]) (rest := []) (wr := []) ⟨hx, hb, hml, hown, hts⟩ (c_J1_charAt l D cI cZ ad adv i k hi hk) (va_cwS 2 hts gJ0_charAt_5068e_J1_charAt_3b067 rfl rfl rfl (by decide +kernel) ⟨Nat.le_of_ble_eq_true rfl, Nat.le_of_ble_eq_true rfl⟩) hN hK hP hD hS hA hE [] [] rfl rfl (by decide) (by decide) (by decide) rfl hl.1 rfl (Nat.le_of_ble_eq_true rfl) dJ0_charAt_5068e_12 ⟨Nat.le_of_ble_eq_true rfl, Nat.le_of_ble_eq_true rfl⟩ (fun r u H locs hq hP hD hS => ?_)
  have hq : r = chS i k := hq
  subst hq
  exact ret _ () _ _ _ _ dJ0_charAt_5068e_15 (chS_255 i hi k hk).2 rfl hP hD hS
end JDK
