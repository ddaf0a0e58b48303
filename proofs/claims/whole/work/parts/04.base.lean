abbrev vwCl : List vw_C := [(RX0, TX0, 5), (RX1, TX1, 10), (RX2, TX2, 5), (RX3, TX3, 11), (RX4, TX4, 7), (RX5, TX5, 2), (RX6, TX6, 4), (RX7, TX7, 10), (RX8, TX8, 44)]
/-! the words of the nest (private members reached from the nest's other classes), the form of a contract, entry, return, call -/
def nestF : List (String × Nat × String × String × String × String) := [("AdvanceBook", 64, "AdvanceBook$Tape", "length", "I", "AdvanceBook"), ("AdvanceBook", 81, "AdvanceBook$Town", "papers", "LAdvanceBook$Papers;", "AdvanceBook"), ("AdvanceBook", 85, "AdvanceBook$Town", "today", "I", "AdvanceBook"), ("AdvanceBook", 113, "AdvanceBook$Town", "purses", "[I", "AdvanceBook"), ("AdvanceBook", 148, "AdvanceBook$Reader", "fault", "I", "AdvanceBook"), ("AdvanceBook", 151, "AdvanceBook$Decree", "lines", "I", "AdvanceBook"), ("AdvanceBook", 154, "AdvanceBook$Reader", "faultPlace", "I", "AdvanceBook"), ("AdvanceBook", 176, "AdvanceBook$Town", "men", "I", "AdvanceBook"), ("AdvanceBook", 179, "AdvanceBook$Papers", "size", "I", "AdvanceBook"), ("AdvanceBook", 188, "AdvanceBook$Clearing", "rounds", "I", "AdvanceBook"), ("AdvanceBook$Balance", 28, "AdvanceBook$Town", "men", "I", "AdvanceBook"), ("AdvanceBook$Balance", 33, "AdvanceBook$Town", "papers", "LAdvanceBook$Papers;", "AdvanceBook"), ("AdvanceBook$Clearing", 47, "AdvanceBook$Town", "papers", "LAdvanceBook$Papers;", "AdvanceBook"), ("AdvanceBook$Clearing", 64, "AdvanceBook$Town", "men", "I", "AdvanceBook"), ("AdvanceBook$Clearing", 65, "AdvanceBook$Papers", "size", "I", "AdvanceBook"), ("AdvanceBook$Clearing", 70, "AdvanceBook$Town", "purses", "[I", "AdvanceBook"), ("AdvanceBook$Clearing", 73, "AdvanceBook$Papers", "lefts", "[I", "AdvanceBook"), ("AdvanceBook$Clearing", 76, "AdvanceBook$Papers", "ranks", "[I", "AdvanceBook"), ("AdvanceBook$Clearing", 79, "AdvanceBook$Papers", "days", "[I", "AdvanceBook"), ("AdvanceBook$Clearing", 88, "AdvanceBook$Papers", "debtors", "[I", "AdvanceBook"), ("AdvanceBook$Clearing", 91, "AdvanceBook$Papers", "creditors", "[I", "AdvanceBook"), ("AdvanceBook$Reader", 34, "AdvanceBook$Tape", "length", "I", "AdvanceBook"), ("AdvanceBook$Reader", 43, "AdvanceBook$Tape", "bytes", "[I", "AdvanceBook"), ("AdvanceBook$Reader", 89, "AdvanceBook$Decree", "lines", "I", "AdvanceBook"), ("AdvanceBook$Reader", 92, "AdvanceBook$Decree", "cuts", "[I", "AdvanceBook"), ("AdvanceBook$Reader", 103, "AdvanceBook$Decree", "moves", "[I", "AdvanceBook"), ("AdvanceBook$Reader", 106, "AdvanceBook$Decree", "spare", "I", "AdvanceBook"), ("AdvanceBook$Reader", 108, "AdvanceBook$Decree", "before", "I", "AdvanceBook"), ("AdvanceBook$Town", 39, "AdvanceBook$Clearing", "has", "[I", "AdvanceBook"), ("AdvanceBook$Town", 44, "AdvanceBook$Papers", "size", "I", "AdvanceBook"), ("AdvanceBook$Town", 47, "AdvanceBook$Papers", "lefts", "[I", "AdvanceBook"), ("AdvanceBook$Town", 50, "AdvanceBook$Clearing", "paid", "[I", "AdvanceBook")]
def nestM : List (String × Nat × MethodName × String) := [("AdvanceBook", 9, ⟨"AdvanceBook$Town", "<init>", "()V"⟩, "AdvanceBook"), ("AdvanceBook", 18, ⟨"AdvanceBook$Tape", "<init>", "()V"⟩, "AdvanceBook"), ("AdvanceBook", 25, ⟨"AdvanceBook$Reader", "<init>", "()V"⟩, "AdvanceBook"), ("AdvanceBook", 32, ⟨"AdvanceBook$Balance", "<init>", "()V"⟩, "AdvanceBook"), ("AdvanceBook", 46, ⟨"AdvanceBook$Clearing", "<init>", "()V"⟩, "AdvanceBook"), ("AdvanceBook$Town", 17, ⟨"AdvanceBook$Papers", "<init>", "()V"⟩, "AdvanceBook")]
def nestWs : List Cond := nestF.map (fun q => Cond.fieldLinkNest q.1 q.2.1 q.2.2.1 q.2.2.2.1 q.2.2.2.2.1 q.2.2.2.2.2) ++ nestM.map (fun q => Cond.methodLinkNest q.1 q.2.1 q.2.2.1 q.2.2.2)
def nest (U : State) : Prop := ∀ w ∈ nestWs, va_Nw w U
theorem nest_warm {s U : State} (hW : s.WarmedH U.vm) (h : nest s) : nest U := by
  intro w hw
  have h1 := h w hw
  rcases List.mem_append.mp hw with hw | hw
  · obtain ⟨q, -, rfl⟩ := List.mem_map.mp hw
    exact va_Nw.warmF hW h1
  · obtain ⟨q, -, rfl⟩ := List.mem_map.mp hw
    exact va_Nw.warmM hW h1
theorem nest_same {u U : State} (hv : u.vm = U.vm) (h : nest u) : nest U := by
  intro w hw
  have h1 := h w hw
  rcases List.mem_append.mp hw with hw | hw
  · obtain ⟨q, -, rfl⟩ := List.mem_map.mp hw
    exact va_Nw.same rfl hv h1
  · obtain ⟨q, -, rfl⟩ := List.mem_map.mp hw
    exact va_Nw.same rfl hv h1
theorem nest_useF {s : State} {args : Array Value} (h : nest s) {a b n d o : String} {i : Nat} (hm : (a, i, b, n, d, o) ∈ nestF) : (Cond.fieldLinkNest a i b n d o).before args s = true :=
  va_Nw.use rfl (h _ (List.mem_append_left _ (List.mem_map.mpr ⟨_, hm, rfl⟩)))
theorem nest_useM {s : State} (h : nest s) {a o : String} {i : Nat} {y : MethodName} (hm : (a, i, y, o) ∈ nestM) : va_Nw (.methodLinkNest a i y o) s :=
  h _ (List.mem_append_right _ (List.mem_map.mpr ⟨_, hm, rfl⟩))
abbrev tyL (cI cZ : ClassId) : List (ClassId × FieldType) := [(cI, .int), (cZ, .boolean)]
abbrev ob (a ci : Nat) (fs : List Value) : Nat × va_E := (a, .inr (ci, fs))
abbrev ar (cI : ClassId) (a n : Nat) (f : Nat → Int32) : Nat × va_E := (a, .inl (cI, n, .inl f))
def mPc (D : va_G) (cI cZ : ClassId) (av : List Value) (sz : Nat) (ws : va_W) : Array Value → State → Prop :=
  va_Pc av (fun U => U.heap.size = sz ∧ nest U ∧ va_P D vwCl ws U.heap ∧ va_K D vwCl (tyL cI cZ) U ∧ va_D (fun _ => True) ws)
def mB {S : Type} (D : va_G) (cI cZ : ClassId) (A : Nat → Prop) (w : S → va_W) (u : S) (t : State) : Prop := va_P D vwCl (w u) t.heap ∧ va_K D vwCl (tyL cI cZ) t ∧ va_D A (w u)
/-- a method that answers an int: its world wc, behind it the world w u, with post -/
def MI (l : Launch) (y : MethodName) (ws : List Cond) (rm : Room) (D : va_G) (cI cZ : ClassId) (av : List Value) (wc : va_W) {S : Type} (post : Int32 → S → Prop) (w : S → va_W) (mc ms : Nat) : Prop :=
  ∀ sz : Nat, Met l y ws rm (mPc D cI cZ av sz wc) (va_Qi post (mB D cI cZ (va_A wc sz) w) (va_A wc sz)) mc ms (va_A wc sz)
def MV (l : Launch) (y : MethodName) (ws : List Cond) (rm : Room) (D : va_G) (cI cZ : ClassId) (av : List Value) (wc : va_W) {S : Type} (post : S → Prop) (w : S → va_W) (mc ms : Nat) : Prop :=
  ∀ sz : Nat, Met l y ws rm (mPc D cI cZ av sz wc) (va_Qv post (mB D cI cZ (va_A wc sz) w) (va_A wc sz)) mc ms (va_A wc sz)
theorem mPc_blind {D : va_G} {cI cZ : ClassId} {av : List Value} {sz : Nat} {ws : va_W} : FrameBlind (mPc D cI cZ av sz ws) := by
  intro a U g mk q
  obtain ⟨q0, q1, qN, qP, qK, qD⟩ := q
  exact ⟨q0, q1, nest_same (u := U) (U := U.calling g mk a) rfl qN, qP, va_K.moved (u := U) (U := U.calling g mk a) (Vm.Alike.refl U.vm) qK, qD⟩
section MOF
variable {l : Launch} {y : MethodName} {ws ws' : List Cond} {rm : Room} {D : va_G} {cI cZ : ClassId} {av : List Value} {wc : va_W} {S : Type} {w : S → va_W} {mc ms : Nat} {cc : ByteArray} {maxL : Nat}
theorem MI.of {post : Int32 → S → Prop} (hy : plainName y.cls = true) (hw : ws = Cond.code y cc maxL (some .int) :: ws') (hlen : (lg_sl av).length ≤ maxL)
    (body : ∀ (p : Program) (e : Env) (s : State) (m : MethodId) (below : List Frame) (meth : Method) (c : Code) (A : Nat → Prop) (Q : State → Prop),
      p.tables.exec = Jvm.exec → c.code = cc → c.maxLocals = maxL → s.vm.findClass y.cls = some m.cls → (∀ w ∈ ws, w.before av.toArray s = true) → nest s → va_K D vwCl (tyL cI cZ) s → (∀ q : Nat, s.heap.size ≤ q → A q) →
      (∀ (v : Int32) (u : S) (H : Heap) (locs : List Loc) (pc : Nat) (ls : Array Slot), decode cc pc = .ok (.ireturn, 1) → post v u → va_P D vwCl (w u) H → va_D A (w u) → va_S A s.heap H locs → W p l e rm s m av.toArray below meth c H locs mc ms Q (F0 m pc ls [.int v])) →
      va_P D vwCl wc s.heap → va_D A wc → va_S A s.heap s.heap [] → ∀ ls : Array Slot, lv_has ls maxL (lv_args 0 av) → W p l e rm s m av.toArray below meth c s.heap [] 0 0 Q (F0 m 0 ls [])) : MI l y ws rm D cI cZ av wc post w mc ms := by
  intro sz
  refine Met.ofW (cc := cc) (maxL := maxL) (ret := some .int) hy hw ?_
  intro p e s m args below meth c s₁ B hml hv
  obtain ⟨rfl, hsz, hN, hP, hK, hD0⟩ := hv
  have hts := atoms_spec (ws := ws) B.pre
  subst hsz
  have hD := hD0.self (sz := s.heap.size)
  have hl := lv_entry av (n := maxL) hlen
  rw [lg_entry_eq]
  exact body p e s m below meth c (va_A wc s.heap.size) _ B.exec B.bytes hml (findClass_of_methodNamed B.named) hts hN hK (fun q h => Or.inr h)
    (fun v u H locs pc ls hd hp hP hD hS => W.iret B.exec B.bytes B.returns (fun t ht hW => ⟨⟨v, u, rfl, hp, by rw [ht]; exact hP, va_K.moved hW.alike hK, hD⟩, hS.F ht⟩) hS.2.2 hd (hlocks := B.notSynchronized)) hP hD va_S.rf _ hl
theorem MI.ofZ {post : Int32 → S → Prop} (hy : plainName y.cls = true) (hw : ws = Cond.code y cc maxL (some .boolean) :: ws') (hlen : (lg_sl av).length ≤ maxL)
    (body : ∀ (p : Program) (e : Env) (s : State) (m : MethodId) (below : List Frame) (meth : Method) (c : Code) (A : Nat → Prop) (Q : State → Prop),
      p.tables.exec = Jvm.exec → c.code = cc → c.maxLocals = maxL → s.vm.findClass y.cls = some m.cls → (∀ w ∈ ws, w.before av.toArray s = true) → nest s → va_K D vwCl (tyL cI cZ) s → (∀ q : Nat, s.heap.size ≤ q → A q) →
      (∀ (v : Int32) (u : S) (H : Heap) (locs : List Loc) (pc : Nat) (ls : Array Slot), decode cc pc = .ok (.ireturn, 1) → (v = 0 ∨ v = 1) → post v u → va_P D vwCl (w u) H → va_D A (w u) → va_S A s.heap H locs → W p l e rm s m av.toArray below meth c H locs mc ms Q (F0 m pc ls [.int v])) →
      va_P D vwCl wc s.heap → va_D A wc → va_S A s.heap s.heap [] → ∀ ls : Array Slot, lv_has ls maxL (lv_args 0 av) → W p l e rm s m av.toArray below meth c s.heap [] 0 0 Q (F0 m 0 ls [])) : MI l y ws rm D cI cZ av wc post w mc ms := by
  intro sz
  refine Met.ofW (cc := cc) (maxL := maxL) (ret := some .boolean) hy hw ?_
  intro p e s m args below meth c s₁ B hml hv
  obtain ⟨rfl, hsz, hN, hP, hK, hD0⟩ := hv
  have hts := atoms_spec (ws := ws) B.pre
  subst hsz
  have hD := hD0.self (sz := s.heap.size)
  have hl := lv_entry av (n := maxL) hlen
  rw [lg_entry_eq]
  exact body p e s m below meth c (va_A wc s.heap.size) _ B.exec B.bytes hml (findClass_of_methodNamed B.named) hts hN hK (fun q h => Or.inr h)
    (fun v u H locs pc ls hd hz hp hP hD hS => W.zret B.exec B.bytes B.returns (by rcases hz with rfl | rfl <;> rfl) (fun t ht hW => ⟨⟨v, u, rfl, hp, by rw [ht]; exact hP, va_K.moved hW.alike hK, hD⟩, hS.F ht⟩) hS.2.2 hd (hlocks := B.notSynchronized)) hP hD va_S.rf _ hl
theorem MV.of {post : S → Prop} (hy : plainName y.cls = true) (hw : ws = Cond.code y cc maxL none :: ws') (hlen : (lg_sl av).length ≤ maxL)
    (body : ∀ (p : Program) (e : Env) (s : State) (m : MethodId) (below : List Frame) (meth : Method) (c : Code) (A : Nat → Prop) (Q : State → Prop),
      p.tables.exec = Jvm.exec → c.code = cc → c.maxLocals = maxL → s.vm.findClass y.cls = some m.cls → (∀ w ∈ ws, w.before av.toArray s = true) → nest s → va_K D vwCl (tyL cI cZ) s → (∀ q : Nat, s.heap.size ≤ q → A q) →
      (∀ (u : S) (H : Heap) (locs : List Loc) (pc : Nat) (ls : Array Slot), decode cc pc = .ok (.return_, 1) → post u → va_P D vwCl (w u) H → va_D A (w u) → va_S A s.heap H locs → W p l e rm s m av.toArray below meth c H locs mc ms Q (F0 m pc ls [])) →
      va_P D vwCl wc s.heap → va_D A wc → va_S A s.heap s.heap [] → ∀ ls : Array Slot, lv_has ls maxL (lv_args 0 av) → meth.name = y.name → W p l e rm s m av.toArray below meth c s.heap [] 0 0 Q (F0 m 0 ls [])) : MV l y ws rm D cI cZ av wc post w mc ms := by
  intro sz
  refine Met.ofW (cc := cc) (maxL := maxL) (ret := none) hy hw ?_
  intro p e s m args below meth c s₁ B hml hv
  obtain ⟨rfl, hsz, hN, hP, hK, hD0⟩ := hv
  have hts := atoms_spec (ws := ws) B.pre
  subst hsz
  have hD := hD0.self (sz := s.heap.size)
  have hl := lv_entry av (n := maxL) hlen
  rw [lg_entry_eq]
  exact body p e s m below meth c (va_A wc s.heap.size) _ B.exec B.bytes hml (findClass_of_methodNamed B.named) hts hN hK (fun q h => Or.inr h)
    (fun u H locs pc ls hd hp hP hD hS => W.vret B.exec B.bytes B.returns (fun t ht hW => ⟨⟨u, rfl, hp, by rw [ht]; exact hP, va_K.moved hW.alike hK, hD⟩, hS.F ht⟩) hS.2.2 hd (hlocks := B.notSynchronized)) hP hD va_S.rf _ hl (name_of_methodNamed B.named B.method).1
end MOF
theorem fm_of_map {α β : Type} {f : α → Option β} : ∀ {is : List α} {wc : List β}, is.map f = wc.map some → is.filterMap f = wc
  | [], [], _ => rfl
  | [], _ :: _, h => by simp at h
  | _ :: _, [], h => by simp at h
  | i :: is, q :: wc, h => by
    simp only [List.map_cons, List.cons.injEq] at h
    rw [List.filterMap_cons, h.1, fm_of_map h.2]
section MCALL
variable {p : Program} {l : Launch} {e : Env} {R : Room} {s : State} {m : MethodId} {args : Array Value} {below : List Frame} {meth : Method} {c : Code} {H H0 : Heap} {locs : List Loc} {cells slots : Nat} {Q : State → Prop}
variable {y : MethodName} {bytes cc : ByteArray} {maxL nL mc ms n index ci b : Nat} {ret : Option FieldType} {wsM Ts : List Cond} {rm : Room} {own C host : String} {As rest st fs : List Value} {pc : Nat} {ls : Array Slot} {A : Nat → Prop}
variable {D : va_G} {cI cZ : ClassId} {ws wc wr : va_W} {S : Type} {w : S → va_W} {vq : vw_C}
theorem mB_join {t : State} {H1 : Heap} {u : S} (hP : va_P D vwCl ws H) (hD : va_D A ws) (isC isR : List Nat) (hC : isC.map (fun i => ws[i]?) = wc.map some) (hR : isR.map (fun i => ws[i]?) = wr.map some) (hnr : va_nd isR = true) (hdis : ∀ i ∈ isR, i ∉ isC) (hF : ∀ q, va_A wc H.size q → A q)
    (ht : t.heap = H1) (hk : ∀ q : Nat, q < H.size → ¬ va_A wc H.size q → H1[q]? = H[q]?) (hB : mB D cI cZ (va_A wc H.size) w u t) : va_P D vwCl (wr ++ w u) H1 ∧ va_D A (wr ++ w u) := by
  obtain ⟨hP1, -, hD1⟩ := hB
  rw [ht] at hP1
  exact va_join hP hD isC isR hC hR hnr hdis hk hF hP1 hD1
theorem mPc_pre (hN : nest s) (hK : va_K D vwCl (tyL cI cZ) s) (hPc : va_P D vwCl wc H) (hDc : va_D A wc) {av : List Value} : ∀ U : State, U.heap = H → s.WarmedH U.vm → mPc D cI cZ av H.size wc av.toArray U := fun U hU hW =>
  ⟨rfl, by rw [hU], nest_warm hW hN, by rw [hU]; exact hPc, va_K.moved hW.alike hK, hDc.weaken (fun _ _ _ _ => trivial)⟩
theorem m_cVi {post : Int32 → S → Prop} (FX : CallFix p m c cc nL s args Ts own) (hM : MI l y wsM rm D cI cZ (.ref b :: As) wc post w mc ms) (cw : CallW R s args own C index y bytes maxL ret wsM rm mc ms n)
    (hN : nest s) (hK : va_K D vwCl (tyL cI cZ) s) (hP : va_P D vwCl ws H) (hD : va_D A ws) (hS : va_S A H0 H locs) (hA : ∀ q, H0.size ≤ q → A q)
    (isC isR : List Nat) (hC : isC.map (fun i => ws[i]?) = wc.map some) (hR : isR.map (fun i => ws[i]?) = wr.map some) (hnc : va_nd isC = true) (hnr : va_nd isR = true) (hdis : ∀ i ∈ isR, i ∉ isC)
    (q0 : Nat) (hci : vwCl[ci]? = some vq) (hvq : vq.1 = C) (he : wc[q0]? = some (b, .inr (ci, fs)))
    (hn : As.length = n) (hsz : ls.size = nL) (hst : st = As.reverse ++ .ref b :: rest) (hW : (rest.map fun v => v.category).sum ≤ 8) (hdg : decode cc pc = .ok (.invokevirtual index, 3)) (hf : cells + mc ≤ R.cells ∧ slots + ms ≤ R.slots)
    (kk : ∀ (r : Int32) (u : S) (H1 : Heap) (locs1 : List Loc), post r u → va_P D vwCl (wr ++ w u) H1 → va_D A (wr ++ w u) → va_S A H0 H1 locs1 → W p l e R s m args below meth c H1 locs1 (cells + mc) (slots + ms) Q (F0 m (pc + 3) ls (.int r :: rest))) :
    W p l e R s m args below meth c H locs cells slots Q (F0 m pc ls st) := by
  have hPc := hP.sub (ws' := wc) isC (fm_of_map hC)
  have hDc := hD.sub (ws' := wc) isC hnc hC
  have hFc := va_free (wc := wc) hD hS hA isC hC
  subst hvq
  refine va_calli (va_runV (As := As) (rest := rest) FX (hM H.size) cw ⟨mPc_blind, va_recv hK hPc (q := vq) hci he, mPc_pre hN hK hPc hDc⟩ rfl hn hsz hst (lv_room hW) hdg hf) hS (fun q _ h => hFc q h) hFc (fun r u t H1 locs1 ht hvm hw hB hz1 hk1 hS1 => ?_)
  obtain ⟨hP1, hD1⟩ := mB_join hP hD isC isR hC hR hnr hdis hFc ht hk1 hB
  exact kk r u H1 locs1 hw hP1 hD1 hS1
theorem m_cVv {post : S → Prop} (FX : CallFix p m c cc nL s args Ts own) (hM : MV l y wsM rm D cI cZ (.ref b :: As) wc post w mc ms) (cw : CallW R s args own C index y bytes maxL ret wsM rm mc ms n)
    (hN : nest s) (hK : va_K D vwCl (tyL cI cZ) s) (hP : va_P D vwCl ws H) (hD : va_D A ws) (hS : va_S A H0 H locs) (hA : ∀ q, H0.size ≤ q → A q)
    (isC isR : List Nat) (hC : isC.map (fun i => ws[i]?) = wc.map some) (hR : isR.map (fun i => ws[i]?) = wr.map some) (hnc : va_nd isC = true) (hnr : va_nd isR = true) (hdis : ∀ i ∈ isR, i ∉ isC)
    (q0 : Nat) (hci : vwCl[ci]? = some vq) (hvq : vq.1 = C) (he : wc[q0]? = some (b, .inr (ci, fs)))
    (hn : As.length = n) (hsz : ls.size = nL) (hst : st = As.reverse ++ .ref b :: rest) (hW : (rest.map fun v => v.category).sum ≤ 8) (hdg : decode cc pc = .ok (.invokevirtual index, 3)) (hf : cells + mc ≤ R.cells ∧ slots + ms ≤ R.slots)
    (kk : ∀ (u : S) (H1 : Heap) (locs1 : List Loc), post u → va_P D vwCl (wr ++ w u) H1 → va_D A (wr ++ w u) → va_S A H0 H1 locs1 → W p l e R s m args below meth c H1 locs1 (cells + mc) (slots + ms) Q (F0 m (pc + 3) ls rest)) :
    W p l e R s m args below meth c H locs cells slots Q (F0 m pc ls st) := by
  have hPc := hP.sub (ws' := wc) isC (fm_of_map hC)
  have hDc := hD.sub (ws' := wc) isC hnc hC
  have hFc := va_free (wc := wc) hD hS hA isC hC
  subst hvq
  refine va_callv (va_runV (As := As) (rest := rest) FX (hM H.size) cw ⟨mPc_blind, va_recv hK hPc (q := vq) hci he, mPc_pre hN hK hPc hDc⟩ rfl hn hsz hst (lv_room hW) hdg hf) hS (fun q _ h => hFc q h) hFc (fun u t H1 locs1 ht hvm hw hB hz1 hk1 hS1 => ?_)
  obtain ⟨hP1, hD1⟩ := mB_join hP hD isC isR hC hR hnr hdis hFc ht hk1 hB
  exact kk u H1 locs1 hw hP1 hD1 hS1
theorem m_cSi {post : Int32 → S → Prop} (FX : CallFix p m c cc nL s args Ts own) (hM : MI l y wsM rm D cI cZ As wc post w mc ms) (cw : CallB R s args own index y bytes maxL ret wsM rm mc ms n ∧ (Cond.static y).before args s = true)
    (hN : nest s) (hK : va_K D vwCl (tyL cI cZ) s) (hP : va_P D vwCl ws H) (hD : va_D A ws) (hS : va_S A H0 H locs) (hA : ∀ q, H0.size ≤ q → A q)
    (isC isR : List Nat) (hC : isC.map (fun i => ws[i]?) = wc.map some) (hR : isR.map (fun i => ws[i]?) = wr.map some) (hnc : va_nd isC = true) (hnr : va_nd isR = true) (hdis : ∀ i ∈ isR, i ∉ isC)
    (hn : As.length = n) (hsz : ls.size = nL) (hst : st = As.reverse ++ rest) (hW : (rest.map fun v => v.category).sum ≤ 8) (hdg : decode cc pc = .ok (.invokestatic index, 3)) (hf : cells + mc ≤ R.cells ∧ slots + ms ≤ R.slots)
    (kk : ∀ (r : Int32) (u : S) (H1 : Heap) (locs1 : List Loc), post r u → va_P D vwCl (wr ++ w u) H1 → va_D A (wr ++ w u) → va_S A H0 H1 locs1 → W p l e R s m args below meth c H1 locs1 (cells + mc) (slots + ms) Q (F0 m (pc + 3) ls (.int r :: rest))) :
    W p l e R s m args below meth c H locs cells slots Q (F0 m pc ls st) := by
  have hPc := hP.sub (ws' := wc) isC (fm_of_map hC)
  have hDc := hD.sub (ws' := wc) isC hnc hC
  have hFc := va_free (wc := wc) hD hS hA isC hC
  refine va_calli (va_runS (As := As) (rest := rest) FX (hM H.size) cw ⟨mPc_blind, mPc_pre hN hK hPc hDc⟩ rfl hn hsz hst (lv_room hW) hdg hf) hS (fun q _ h => hFc q h) hFc (fun r u t H1 locs1 ht hvm hw hB hz1 hk1 hS1 => ?_)
  obtain ⟨hP1, hD1⟩ := mB_join hP hD isC isR hC hR hnr hdis hFc ht hk1 hB
  exact kk r u H1 locs1 hw hP1 hD1 hS1
theorem m_cSv {post : S → Prop} (FX : CallFix p m c cc nL s args Ts own) (hM : MV l y wsM rm D cI cZ As wc post w mc ms) (cw : CallB R s args own index y bytes maxL ret wsM rm mc ms n ∧ (Cond.static y).before args s = true)
    (hN : nest s) (hK : va_K D vwCl (tyL cI cZ) s) (hP : va_P D vwCl ws H) (hD : va_D A ws) (hS : va_S A H0 H locs) (hA : ∀ q, H0.size ≤ q → A q)
    (isC isR : List Nat) (hC : isC.map (fun i => ws[i]?) = wc.map some) (hR : isR.map (fun i => ws[i]?) = wr.map some) (hnc : va_nd isC = true) (hnr : va_nd isR = true) (hdis : ∀ i ∈ isR, i ∉ isC)
    (hn : As.length = n) (hsz : ls.size = nL) (hst : st = As.reverse ++ rest) (hW : (rest.map fun v => v.category).sum ≤ 8) (hdg : decode cc pc = .ok (.invokestatic index, 3)) (hf : cells + mc ≤ R.cells ∧ slots + ms ≤ R.slots)
    (kk : ∀ (u : S) (H1 : Heap) (locs1 : List Loc), post u → va_P D vwCl (wr ++ w u) H1 → va_D A (wr ++ w u) → va_S A H0 H1 locs1 → W p l e R s m args below meth c H1 locs1 (cells + mc) (slots + ms) Q (F0 m (pc + 3) ls rest)) :
    W p l e R s m args below meth c H locs cells slots Q (F0 m pc ls st) := by
  have hPc := hP.sub (ws' := wc) isC (fm_of_map hC)
  have hDc := hD.sub (ws' := wc) isC hnc hC
  have hFc := va_free (wc := wc) hD hS hA isC hC
  refine va_callv (va_runS (As := As) (rest := rest) FX (hM H.size) cw ⟨mPc_blind, mPc_pre hN hK hPc hDc⟩ rfl hn hsz hst (lv_room hW) hdg hf) hS (fun q _ h => hFc q h) hFc (fun u t H1 locs1 ht hvm hw hB hz1 hk1 hS1 => ?_)
  obtain ⟨hP1, hD1⟩ := mB_join hP hD isC isR hC hR hnr hdis hFc ht hk1 hB
  exact kk u H1 locs1 hw hP1 hD1 hS1
theorem m_cI {post : S → Prop} (FX : CallFix p m c cc nL s args Ts own) (hM : MV l y wsM rm D cI cZ (.ref b :: As) wc post w mc ms) (cw : CallB R s args own index y bytes maxL none wsM rm mc ms n ∧ y.name = "<init>" ∧ (Cond.instanceMethod y).before args s = true)
    (hN : nest s) (hK : va_K D vwCl (tyL cI cZ) s) (hP : va_P D vwCl ws H) (hD : va_D A ws) (hS : va_S A H0 H locs) (hA : ∀ q, H0.size ≤ q → A q)
    (isC isR : List Nat) (hC : isC.map (fun i => ws[i]?) = wc.map some) (hR : isR.map (fun i => ws[i]?) = wr.map some) (hnc : va_nd isC = true) (hnr : va_nd isR = true) (hdis : ∀ i ∈ isR, i ∉ isC)
    (hn : As.length = n) (hsz : ls.size = nL) (hst : st = As.reverse ++ .ref b :: rest) (hW : (rest.map fun v => v.category).sum ≤ 8) (hdg : decode cc pc = .ok (.invokespecial index, 3)) (hf : cells + mc ≤ R.cells ∧ slots + ms ≤ R.slots)
    (kk : ∀ (u : S) (H1 : Heap) (locs1 : List Loc), post u → va_P D vwCl (wr ++ w u) H1 → va_D A (wr ++ w u) → va_S A H0 H1 locs1 → W p l e R s m args below meth c H1 locs1 (cells + mc) (slots + ms) Q (F0 m (pc + 3) ls rest)) :
    W p l e R s m args below meth c H locs cells slots Q (F0 m pc ls st) := by
  have hPc := hP.sub (ws' := wc) isC (fm_of_map hC)
  have hDc := hD.sub (ws' := wc) isC hnc hC
  have hFc := va_free (wc := wc) hD hS hA isC hC
  refine va_callv (va_runI (As := As) (rest := rest) FX (hM H.size) cw ⟨mPc_blind, mPc_pre hN hK hPc hDc⟩ rfl hn hsz hst (lv_room hW) hdg hf) hS (fun q _ h => hFc q h) hFc (fun u t H1 locs1 ht hvm hw hB hz1 hk1 hS1 => ?_)
  obtain ⟨hP1, hD1⟩ := mB_join hP hD isC isR hC hR hnr hdis hFc ht hk1 hB
  exact kk u H1 locs1 hw hP1 hD1 hS1
theorem m_cIN {post : S → Prop} (FX : CallFix p m c cc nL s args Ts own) (hM : MV l y wsM rm D cI cZ (.ref b :: As) wc post w mc ms) (cw : va_CN R s args own index y host bytes maxL none wsM rm mc ms n ∧ y.name = "<init>" ∧ (Cond.instanceMethod y).before args s = true)
    (hN : nest s) (hK : va_K D vwCl (tyL cI cZ) s) (hP : va_P D vwCl ws H) (hD : va_D A ws) (hS : va_S A H0 H locs) (hA : ∀ q, H0.size ≤ q → A q)
    (isC isR : List Nat) (hC : isC.map (fun i => ws[i]?) = wc.map some) (hR : isR.map (fun i => ws[i]?) = wr.map some) (hnc : va_nd isC = true) (hnr : va_nd isR = true) (hdis : ∀ i ∈ isR, i ∉ isC)
    (hn : As.length = n) (hsz : ls.size = nL) (hst : st = As.reverse ++ .ref b :: rest) (hW : (rest.map fun v => v.category).sum ≤ 8) (hdg : decode cc pc = .ok (.invokespecial index, 3)) (hf : cells + mc ≤ R.cells ∧ slots + ms ≤ R.slots)
    (kk : ∀ (u : S) (H1 : Heap) (locs1 : List Loc), post u → va_P D vwCl (wr ++ w u) H1 → va_D A (wr ++ w u) → va_S A H0 H1 locs1 → W p l e R s m args below meth c H1 locs1 (cells + mc) (slots + ms) Q (F0 m (pc + 3) ls rest)) :
    W p l e R s m args below meth c H locs cells slots Q (F0 m pc ls st) := by
  have hPc := hP.sub (ws' := wc) isC (fm_of_map hC)
  have hDc := hD.sub (ws' := wc) isC hnc hC
  have hFc := va_free (wc := wc) hD hS hA isC hC
  refine va_callv (va_runIN (As := As) (rest := rest) FX (hM H.size) cw ⟨mPc_blind, mPc_pre hN hK hPc hDc⟩ rfl hn hsz hst (lv_room hW) hdg hf) hS (fun q _ h => hFc q h) hFc (fun u t H1 locs1 ht hvm hw hB hz1 hk1 hS1 => ?_)
  obtain ⟨hP1, hD1⟩ := mB_join hP hD isC isR hC hR hnr hdis hFc ht hk1 hB
  exact kk u H1 locs1 hw hP1 hD1 hS1
end MCALL
section MROW
variable {p : Program} {l : Launch} {e : Env} {R : Room} {s : State} {m : MethodId} {args : Array Value} {below : List Frame} {meth : Method} {c : Code} {H H0 : Heap} {locs : List Loc} {cells slots : Nat} {Q : State → Prop}
variable {cc : ByteArray} {D : va_G} {cl : List vw_C} {tys : List (ClassId × FieldType)} {ws : va_W} {A : Nat → Prop} {a pc : Nat} {ls : Array Slot} {rest : List Value}
theorem m_iald (hx : p.tables.exec = Jvm.exec) (hb : c.code = cc) (hK : va_K D cl tys s) (hP : va_P D cl ws H) (q0 t0 : Nat) {cA : ClassId} {n : Nat} {f : Nat → Int32} (ha : ws[q0]? = some (a, .inl (cA, n, .inl f))) (ht : tys[t0]? = some (cA, .int)) {k : Nat} (hk : k < n) (hn : n < 2 ^ 31) (hdg : decode cc pc = .ok (.iaload, 1))
    (kk : W p l e R s m args below meth c H locs cells slots Q (F0 m (pc + 1) ls (.int (f k) :: rest))) : W p l e R s m args below meth c H locs cells slots Q (F0 m pc ls (.int (nI k) :: .ref a :: rest)) := by
  refine va_iald hx hb hK hP q0 t0 ha ht (vp_in_nI hk hn) hdg ?_
  rw [nI_clamp (Nat.lt_trans hk hn)]
  exact kk
theorem m_zald (hx : p.tables.exec = Jvm.exec) (hb : c.code = cc) (hK : va_K D cl tys s) (hP : va_P D cl ws H) (q0 t0 : Nat) {cA : ClassId} {n : Nat} {f : Nat → Int32} (ha : ws[q0]? = some (a, .inl (cA, n, .inl f))) (ht : tys[t0]? = some (cA, .boolean)) {k : Nat} (hk : k < n) (hn : n < 2 ^ 31) (hdg : decode cc pc = .ok (.baload, 1))
    (kk : W p l e R s m args below meth c H locs cells slots Q (F0 m (pc + 1) ls (.int (f k) :: rest))) : W p l e R s m args below meth c H locs cells slots Q (F0 m pc ls (.int (nI k) :: .ref a :: rest)) := by
  refine va_zald hx hb hK hP q0 t0 ha ht (vp_in_nI hk hn) hdg ?_
  rw [nI_clamp (Nat.lt_trans hk hn)]
  exact kk
theorem m_iast (hx : p.tables.exec = Jvm.exec) (hb : c.code = cc) (hK : va_K D cl tys s) (hP : va_P D cl ws H) (hD : va_D A ws) (hS : va_S A H0 H locs) (q0 t0 : Nat) {cA : ClassId} {n : Nat} {f : Nat → Int32} (ha : ws[q0]? = some (a, .inl (cA, n, .inl f))) (ht : tys[t0]? = some (cA, .int)) {k : Nat} {x : Int32} (hk : k < n) (hn : n < 2 ^ 31) (hdg : decode cc pc = .ok (.iastore, 1))
    (kk : ∀ (H1 : Heap) (locs1 : List Loc), va_P D cl (ws.set q0 (a, .inl (cA, n, .inl (upd f k x)))) H1 → va_D A (ws.set q0 (a, .inl (cA, n, .inl (upd f k x)))) → va_S A H0 H1 locs1 → W p l e R s m args below meth c H1 locs1 cells slots Q (F0 m (pc + 1) ls rest)) : W p l e R s m args below meth c H locs cells slots Q (F0 m pc ls (.int x :: .int (nI k) :: .ref a :: rest)) := by
  refine va_iast hx hb hK hP hD hS q0 t0 ha ht (vp_in_nI hk hn) hdg ?_
  rw [nI_clamp (Nat.lt_trans hk hn)]
  exact kk
end MROW
theorem nI_inc (k j : Nat) {n : Int} (h : Int32.ofInt n = nI j) : nI k + Int32.ofInt n = nI (k + j) := by rw [h, nI_add]

abbrev ix (x : Int32) : Nat := x.toNatClampNeg
section MROW2
variable {p : Program} {l : Launch} {e : Env} {R : Room} {s : State} {m : MethodId} {args : Array Value} {below : List Frame} {meth : Method} {c : Code} {H H0 : Heap} {locs : List Loc} {cells slots : Nat} {Q : State → Prop}
variable {cc : ByteArray} {D : va_G} {cl : List vw_C} {ws : va_W} {A : Nat → Prop} {a pc : Nat} {ls : Array Slot} {rest : List Value} {cI cZ : ClassId}
theorem m_iaddN {a b : Nat} (hx : p.tables.exec = Jvm.exec) (hb : c.code = cc) (hdg : decode cc pc = .ok (.iadd, 1))
    (kk : W p l e R s m args below meth c H locs cells slots Q (F0 m (pc + 1) ls (.int (nI (a + b)) :: rest))) : W p l e R s m args below meth c H locs cells slots Q (F0 m pc ls (.int (nI b) :: .int (nI a) :: rest)) := by
  refine lv_iadd hx hb hdg ?_
  rw [nI_add]
  exact kk
theorem m_imulN {a b : Nat} (hx : p.tables.exec = Jvm.exec) (hb : c.code = cc) (hdg : decode cc pc = .ok (.imul, 1))
    (kk : W p l e R s m args below meth c H locs cells slots Q (F0 m (pc + 1) ls (.int (nI (a * b)) :: rest))) : W p l e R s m args below meth c H locs cells slots Q (F0 m pc ls (.int (nI b) :: .int (nI a) :: rest)) := by
  refine lv_imul hx hb hdg ?_
  rw [pk_mul]
  exact kk
theorem vp_nar_bool {x : Int32} (h : x = 0 ∨ x = 1) : vp_nar .boolean x = x := by rcases h with rfl | rfl <;> rfl
theorem zn_ok {x : Int32} (h : x = 0 ∨ x = 1) : narrow .boolean (.int x) = .int x := by rcases h with rfl | rfl <;> rfl
theorem zf_ok {x : Int32} (h : x = 0 ∨ x = 1) : fits .boolean (.int x) = true := by rcases h with rfl | rfl <;> rfl
theorem m_zast {tys : List (ClassId × FieldType)} (hx : p.tables.exec = Jvm.exec) (hb : c.code = cc) (hK : va_K D cl tys s) (hP : va_P D cl ws H) (hD : va_D A ws) (hS : va_S A H0 H locs) (q0 t0 : Nat) {cA : ClassId} {n : Nat} {f : Nat → Int32} (ha : ws[q0]? = some (a, .inl (cA, n, .inl f))) (ht : tys[t0]? = some (cA, .boolean)) {k : Nat} {x : Int32} (hz : x = 0 ∨ x = 1) (hk : k < n) (hn : n < 2 ^ 31) (hdg : decode cc pc = .ok (.bastore, 1))
    (kk : ∀ (H1 : Heap) (locs1 : List Loc), va_P D cl (ws.set q0 (a, .inl (cA, n, .inl (upd f k x)))) H1 → va_D A (ws.set q0 (a, .inl (cA, n, .inl (upd f k x)))) → va_S A H0 H1 locs1 → W p l e R s m args below meth c H1 locs1 cells slots Q (F0 m (pc + 1) ls rest)) : W p l e R s m args below meth c H locs cells slots Q (F0 m pc ls (.int x :: .int (nI k) :: .ref a :: rest)) := by
  refine va_zast hx hb hK hP hD hS q0 t0 ha ht (vp_in_nI hk hn) hdg ?_
  rw [nI_clamp (Nat.lt_trans hk hn), vp_nar_bool hz]
  exact kk
theorem m_newaI {N : Nat} {n : Int32} (hx : p.tables.exec = Jvm.exec) (hb : c.code = cc) (harr : (Cond.arrayClass .int).before args s = true) (hK : va_K D cl (tyL cI cZ) s) (hP : va_P D cl ws H) (hD : va_D A ws) (hS : va_S A H0 H locs) (hA : ∀ q, H0.size ≤ q → A q) (hn : n = nI N) (hN : N ≤ 1000) (hr : cells + 1 ≤ R.cells ∧ slots + N ≤ R.slots) (hdg : decode cc pc = .ok (.newarray .int, 2))
    (kk : ∀ (q : Nat) (H1 : Heap), va_P D cl (ws ++ [ar cI q N (fun _ => 0)]) H1 → va_D A (ws ++ [ar cI q N (fun _ => 0)]) → va_S A H0 H1 locs → W p l e R s m args below meth c H1 locs (cells + 1) (slots + N) Q (F0 m (pc + 2) ls (.ref q :: rest))) : W p l e R s m args below meth c H locs cells slots Q (F0 m pc ls (.int n :: rest)) := by
  subst hn
  refine va_newa (atype := .int) (ty := .int) (N' := N) (a0 := (N, .inl (fun _ => 0))) hx hb harr rfl hK hP hD hS hA (fun cA => by rw [vp_cell_i]; rfl) (nI_pos (by omega)) (nI_clamp (by omega)) (by show N * 4 ≤ _; omega) hr.1 hr.2 hdg (fun q cA H1 hK1 hP1 hD1 hS1 => ?_)
  have e1 : s.vm.findClass ("[" ++ (FieldType.int).toString) = some cI := (hK.2 0 _ rfl).2
  have e2 : s.vm.findClass ("[" ++ (FieldType.int).toString) = some cA := (hK1.2 2 _ rfl).2
  cases Option.some.inj (e1.symm.trans e2)
  exact kk q H1 hP1 hD1 hS1
theorem m_newaZ {N : Nat} {n : Int32} (hx : p.tables.exec = Jvm.exec) (hb : c.code = cc) (harr : (Cond.arrayClass .boolean).before args s = true) (hK : va_K D cl (tyL cI cZ) s) (hP : va_P D cl ws H) (hD : va_D A ws) (hS : va_S A H0 H locs) (hA : ∀ q, H0.size ≤ q → A q) (hn : n = nI N) (hN : N ≤ 1000) (hr : cells + 1 ≤ R.cells ∧ slots + N ≤ R.slots) (hdg : decode cc pc = .ok (.newarray .boolean, 2))
    (kk : ∀ (q : Nat) (H1 : Heap), va_P D cl (ws ++ [ar cZ q N (fun _ => 0)]) H1 → va_D A (ws ++ [ar cZ q N (fun _ => 0)]) → va_S A H0 H1 locs → W p l e R s m args below meth c H1 locs (cells + 1) (slots + N) Q (F0 m (pc + 2) ls (.ref q :: rest))) : W p l e R s m args below meth c H locs cells slots Q (F0 m pc ls (.int n :: rest)) := by
  subst hn
  refine va_newa (atype := .boolean) (ty := .boolean) (N' := N) (a0 := (N, .inl (fun _ => 0))) hx hb harr rfl hK hP hD hS hA (fun cA => by rw [vp_cell_i]; rfl) (nI_pos (by omega)) (nI_clamp (by omega)) (by show N * 1 ≤ _; omega) hr.1 hr.2 hdg (fun q cA H1 hK1 hP1 hD1 hS1 => ?_)
  have e1 : s.vm.findClass ("[" ++ (FieldType.boolean).toString) = some cZ := (hK.2 1 _ rfl).2
  have e2 : s.vm.findClass ("[" ++ (FieldType.boolean).toString) = some cA := (hK1.2 2 _ rfl).2
  cases Option.some.inj (e1.symm.trans e2)
  exact kk q H1 hP1 hD1 hS1
end MROW2
theorem sw_ne {x k : Int32} {z : Int} (hz : k.toInt = z) (h : ¬ x = k) : x.toInt ≠ z := fun e => h (Int32.toInt_inj.mp (e.trans hz.symm))
