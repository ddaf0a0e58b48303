/-! look: a method that may throw; what throwing asks of the tables beside the steady words -/
def decL : List Cond := [.declares ⟨"java/lang/RuntimeException", "<init>", "(Ljava/lang/String;)V"⟩, .declares ⟨"java/lang/Exception", "<init>", "(Ljava/lang/String;)V"⟩, .declares ⟨"java/lang/Throwable", "<init>", "(Ljava/lang/String;)V"⟩, .castable "java/lang/IndexOutOfBoundsException" "java/lang/IndexOutOfBoundsException", .castable "java/util/NoSuchElementException" "java/util/NoSuchElementException"]
def decX (U : State) : Prop := ∀ w ∈ decL, w.before #[] U = true
theorem decX.moved {u U : State} (hvm : u.vm.Alike U.vm) (h : decX u) : decX U := by
  have tr : ∀ {c : Cond}, c.onTables = true → c.before #[] (u.setVm U.vm) = true → c.before #[] U = true := by
    intro c hc h
    have e := Cond.onTables_vm (A := #[]) (A' := #[]) (U := u) (U' := U) U.vm c hc
    have hU : U.setVm U.vm = U := rfl
    rw [hU] at e
    rw [← e]
    exact h
  intro w hw
  have h1 := h w hw
  unfold decL at hw
  simp only [List.mem_cons, List.not_mem_nil, or_false] at hw
  rcases hw with rfl | rfl | rfl | rfl | rfl
  · exact tr rfl (by rw [Cond.declares_setVm hvm]; exact h1)
  · exact tr rfl (by rw [Cond.declares_setVm hvm]; exact h1)
  · exact tr rfl (by rw [Cond.declares_setVm hvm]; exact h1)
  · exact tr rfl (by rw [Cond.castable_setVm hvm]; exact h1)
  · exact tr rfl (by rw [Cond.castable_setVm hvm]; exact h1)
theorem decX.use {s : State} {args : Array Value} (h : decX s) {w : Cond} (hw : w ∈ decL) : w.before args s = true := by
  have h1 := h w hw
  unfold decL at hw
  simp only [List.mem_cons, List.not_mem_nil, or_false] at hw
  rcases hw with rfl | rfl | rfl | rfl | rfl <;> exact va_any rfl h1
theorem decX.of {s : State} {args : Array Value} (h : ∀ w ∈ decL, w.before args s = true) : decX s := by
  intro w hw
  have h1 := h w hw
  unfold decL at hw
  simp only [List.mem_cons, List.not_mem_nil, or_false] at hw
  rcases hw with rfl | rfl | rfl | rfl | rfl <;> exact va_any rfl h1
def mPcX (D : va_G) (cI cZ : ClassId) (ad adv : Nat → Nat) (av : List Value) (sz : Nat) (ws : va_W) : Array Value → State → Prop :=
  va_Pc av (fun U => U.heap.size = sz ∧ nest U ∧ va_P D vwCl ws U.heap ∧ va_K D vwCl (tyL cI cZ) U ∧ va_D (fun _ => True) ws ∧ envS ad adv (va_A ws sz) U U.heap ∧ decX U)
theorem mPcX_blind {D : va_G} {cI cZ : ClassId} {ad adv : Nat → Nat} {av : List Value} {sz : Nat} {ws : va_W} : FrameBlind (mPcX D cI cZ ad adv av sz ws) := by
  intro a U g mk q
  obtain ⟨q0, q1, qN, qP, qK, qD, qE, qX⟩ := q
  exact ⟨q0, q1, nest_same (u := U) (U := U.calling g mk a) rfl qN, qP, va_K.moved (u := U) (U := U.calling g mk a) (Vm.Alike.refl U.vm) qK, qD, envS.same (s := U) (U := U.calling g mk a) rfl qE, decX.moved (u := U) (U := U.calling g mk a) (Vm.Alike.refl U.vm) qX⟩
def MXE (l : Launch) (y : MethodName) (ws : List Cond) (rm : Room) (D : va_G) (cI cZ : ClassId) (ad adv : Nat → Nat) (av : List Value) (wc : va_W) {S : Type} (post : Int32 → S → Prop) (w : S → va_W) (bx : String → Prop) (mc ms : Nat) : Prop :=
  ∀ sz : Nat, vx_Met l y ws rm (mPcX D cI cZ ad adv av sz wc) (va_Qi post (mB D cI cZ (va_A wc sz) w) (va_A wc sz)) (vx_X (fun _ : Unit => True) (fun E _ t => bx E ∧ mB D cI cZ (va_A wc sz) (fun _ : Unit => wc) () t) (va_A wc sz)) mc ms (va_A wc sz)
theorem MXE.of {l : Launch} {y : MethodName} {ws ws' : List Cond} {rm : Room} {D : va_G} {cI cZ : ClassId} {ad adv : Nat → Nat} {av : List Value} {wc : va_W} {S : Type} {w : S → va_W} {bx : String → Prop} {mc ms : Nat} {cc : ByteArray} {maxL : Nat} {post : Int32 → S → Prop} (hy : plainName y.cls = true) (hw : ws = Cond.code y cc maxL (some .int) :: ws') (hlen : (lg_sl av).length ≤ maxL)
    (body : ∀ (p : Program) (e : Env) (s : State) (m : MethodId) (below : List Frame) (meth : Method) (c : Code) (A : Nat → Prop) (Qc : Array Value → State → Outcome → State → Prop) (XC : String → State → State → Prop) (free : Addr → Prop),
      p.tables.exec = Jvm.exec → c.code = cc → c.maxLocals = maxL → s.vm.findClass y.cls = some m.cls → (∀ w ∈ ws, w.before av.toArray s = true) → nest s → va_K D vwCl (tyL cI cZ) s → (∀ q : Nat, s.heap.size ≤ q → A q) → envS ad adv A s s.heap → decX s →
      (∀ x ∈ c.exceptionTable.toList, False) → meth.locks = false → (∀ q, A q → free q) →
      (∀ (E : String) (H : Heap) (locs : List Loc), bx E → va_P D vwCl wc H → va_D A wc → va_S A s.heap H locs → ∀ t : State, s.vm.Alike t.vm → H.size ≤ t.heap.size → (∀ q : Nat, q < H.size → t.heap[q]? = H[q]?) → XC E s t) →
      (∀ (v : Int32) (u : S) (H : Heap) (locs : List Loc) (pc : Nat) (ls : Array Slot), decode cc pc = .ok (.ireturn, 1) → post v u → va_P D vwCl (w u) H → va_D A (w u) → va_S A s.heap H locs → W p l e rm s m av.toArray below meth c H locs mc ms (vx_MQ below Qc XC av.toArray s mc ms free) (F0 m pc ls [.int v])) →
      va_P D vwCl wc s.heap → va_D A wc → va_S A s.heap s.heap [] → ∀ ls : Array Slot, lv_has ls maxL (lv_args 0 av) → W p l e rm s m av.toArray below meth c s.heap [] 0 0 (vx_MQ below Qc XC av.toArray s mc ms free) (F0 m 0 ls [])) : MXE l y ws rm D cI cZ ad adv av wc post w bx mc ms := by
  intro sz
  refine vx_ofW (cc := cc) (maxL := maxL) (ret := some .int) hy hw ?_
  intro p e s m args below meth c s₁ B hml htab hv
  obtain ⟨rfl, hsz, hN, hP, hK, hD0, hE, hX⟩ := hv
  have hts := atoms_spec (ws := ws) B.pre
  subst hsz
  have hD := hD0.self (sz := s.heap.size)
  have hl := lv_entry av (n := maxL) hlen
  rw [lg_entry_eq]
  exact body p e s m below meth c (va_A wc s.heap.size) _ _ _ B.exec B.bytes hml (findClass_of_methodNamed B.named) hts hN hK (fun q h => Or.inr h) hE hX htab B.notSynchronized (fun q h => h)
    (fun E H locs hbx hP hD hS t hal hsz hq => ⟨(), trivial, ⟨hbx, va_P.kept hP (fun k q hk => hq _ (vx_lt hP hk)), va_K.moved hal hK, hD⟩, Nat.le_trans hS.1 hsz, fun q h1 h2 => (hq q (Nat.lt_of_lt_of_le h1 hS.1)).trans (hS.2.1 q h1 h2)⟩)
    (fun v u H locs pc ls hd hp hP hD hS => vx_ret (W.iret B.exec B.bytes B.returns (fun t ht hW => ⟨⟨v, u, rfl, hp, by rw [ht]; exact hP, va_K.moved hW.alike hK, hD⟩, hS.F ht⟩) hS.2.2 hd (hlocks := B.notSynchronized))) hP hD va_S.rf _ hl
