abbrev r_c_X8_move : Room := { frames := 1, cells := 0, slots := 0, locals := 23 }
set_option maxHeartbeats 4000000 in
set_option maxRecDepth 100000 in
theorem c_X8_move (l : Launch) (D : va_G) (cI cZ : ClassId) (aM : Nat) (mA : Nat → Nat) (nt : Nat) (th : Int32) (td : Int32) (nm : Nat) (np : Nat) (isd : Int32) (ln : Int32) (rf : Int32) (rp : Int32) (sz : Int32) (nx : Int32) (kd : Int32) (wh : Int32) (pl : Int32) (rd : Int32) (rn : Int32) (ic : Int32) (mcm : Int32) (mcp : Int32) (mcr : Int32) (fNT : Nat → Int32) (fCR : Nat → Int32) (fLF : Nat → Int32) (fDB : Nat → Int32) (k : Int32) (x : Int32) (hnm : nm ≤ 10) (hnp : np ≤ 40) : MI l yX8_move wsX8_move r_c_X8_move D cI cZ [.ref aM, .int k, .int x] [mo aM mA (nI nt) th td (nI nm) (nI np) isd ln rf rp sz nx kd wh pl rd rn ic mcm mcp mcr, ar cI (mA 22) 10 fNT, ar cI (mA 8) 40 fCR, ar cI (mA 14) 40 fLF, ar cI (mA 7) 40 fDB] (fun (r : Int32) (u : (Nat → Int32)) => r = mvAns (movesL fCR fDB fLF np nm) k x) (fun (u : (Nat → Int32)) => [mo aM mA (nI nt) 0 td (nI nm) (nI np) isd ln rf rp sz nx kd wh pl rd rn ic mcm mcp mcr, ar cI (mA 22) 10 u, ar cI (mA 8) 40 fCR, ar cI (mA 14) 40 fLF, ar cI (mA 7) 40 fDB]) 0 0 := by
  refine MI.of (cc := cX8_move) (maxL := 7) (by decide) rfl (Nat.le_of_ble_eq_true rfl) ?_
  intro p e s m below meth c A Q hx hb hml hown hts hN hK hA ret hP hD hS ls hl
  have hown : s.vm.findClass RX8 = some m.cls := hown
  have inX8 : ∀ w ∈ wsX80, w ∈ wsX8_move := by decide +kernel
  have fl54 := hts (.fieldLink RX8 54 "AdvanceBookModel" "nets" "[I") (by decide +kernel)
  have fl87 := hts (.fieldLink RX8 87 "AdvanceBookModel" "thrown" "I") (by decide +kernel)
  have fl94 := hts (.fieldLink RX8 94 "AdvanceBookModel" "men" "I") (by decide +kernel)
  have hP : va_P D vwCl [mo aM mA (nI nt) th td (nI nm) (nI np) isd ln rf rp sz nx kd wh pl rd rn ic mcm mcp mcr, ar cI (mA 22) 10 fNT, ar cI (mA 8) 40 fCR, ar cI (mA 14) 40 fLF, ar cI (mA 7) 40 fDB] s.heap := hP
  have hD : va_D A [mo aM mA (nI nt) th td (nI nm) (nI np) isd ln rf rp sz nx kd wh pl rd rn ic mcm mcp mcr, ar cI (mA 22) 10 fNT, ar cI (mA 8) 40 fCR, ar cI (mA 14) 40 fLF, ar cI (mA 7) 40 fDB] := hD
  have hl : lv_has ls 7 [(0, .ref aM), (1, .int k), (2, .int x)] := hl
  refine lv_aload_n hx hb dX8_move_0 rfl (lv_at hl 0 rfl) ?_
  refine lv_iconst (v := 0) hx hb dX8_move_1 (by decide) ?_
  refine va_put (D := D) (ci := 8) (v := .int 0) (ty := .int) (C := RX8) (T := TX8) (N := 44) hx hb hts inX8 tyX8 tyX8_ok nmX8 hown hK hP hD hS 0 rfl rfl 2 (by decide) fl87 (fun _ h9 => h9) rfl (by decide +kernel) (rfl) (rfl) (Nat.le_of_ble_eq_true rfl) dX8_move_2 (fun H locs hP hD hS => ?_)
  have hP : va_P D vwCl [mo aM mA (nI nt) 0 td (nI nm) (nI np) isd ln rf rp sz nx kd wh pl rd rn ic mcm mcp mcr, ar cI (mA 22) 10 fNT, ar cI (mA 8) 40 fCR, ar cI (mA 14) 40 fLF, ar cI (mA 7) 40 fDB] H := hP
  have hD : va_D A [mo aM mA (nI nt) 0 td (nI nm) (nI np) isd ln rf rp sz nx kd wh pl rd rn ic mcm mcp mcr, ar cI (mA 22) 10 fNT, ar cI (mA 8) 40 fCR, ar cI (mA 14) 40 fLF, ar cI (mA 7) 40 fDB] := hD
  refine lv_iload_n hx hb dX8_move_5 rfl (lv_at hl 1 rfl) ?_
  refine lv_if_lt (tgt := 18) hx hb dX8_move_6 (by decide) (fun c_6 => ?_) (fun c_6 => ?_)
  · skip
    refine lv_iconst (v := (-1)) hx hb dX8_move_18 (by decide) ?_
    exact ret (-1) fNT _ _ _ _ dX8_move_19 (by rw [mvAns_what (by first | exact Or.inl c_6 | exact Or.inr (Or.inl c_10) | exact Or.inr (Or.inr c_15))]) (hP) (hD) hS
  · skip
    refine lv_iload_n hx hb dX8_move_9 rfl (lv_at hl 2 rfl) ?_
    refine lv_if_lt (tgt := 18) hx hb dX8_move_10 (by decide) (fun c_10 => ?_) (fun c_10 => ?_)
    · skip
      refine lv_iconst (v := (-1)) hx hb dX8_move_18 (by decide) ?_
      exact ret (-1) fNT _ _ _ _ dX8_move_19 (by rw [mvAns_what (by first | exact Or.inl c_6 | exact Or.inr (Or.inl c_10) | exact Or.inr (Or.inr c_15))]) (hP) (hD) hS
    · skip
      refine lv_iload_n hx hb dX8_move_13 rfl (lv_at hl 2 rfl) ?_
      refine lv_iconst (v := 2) hx hb dX8_move_14 (by decide) ?_
      refine lv_icmp_le (tgt := 20) hx hb dX8_move_15 (by decide) (fun c_15 => ?_) (fun c_15 => ?_)
      · skip
        refine lv_iconst (v := 0) hx hb dX8_move_20 (by decide) ?_
        refine lv_istore_n (lv' := [(3, .int 0), (0, .ref aM), (1, .int k), (2, .int x)]) hx hb dX8_move_21 rfl hl (by decide) rfl (fun ls hl => ?_)
        have L_22 : ∀ (n_22 : Nat) (j : Nat) (h : Nat → Int32), (nm - j < n_22) → (j ≤ nm) → (h = fil (netsF fCR fDB fLF np) fNT j) → ∀ (H : Heap) (locs : List Loc), va_P D vwCl [mo aM mA (nI nt) 0 td (nI nm) (nI np) isd ln rf rp sz nx kd wh pl rd rn ic mcm mcp mcr, ar cI (mA 22) 10 h, ar cI (mA 8) 40 fCR, ar cI (mA 14) 40 fLF, ar cI (mA 7) 40 fDB] H → va_D A [mo aM mA (nI nt) 0 td (nI nm) (nI np) isd ln rf rp sz nx kd wh pl rd rn ic mcm mcp mcr, ar cI (mA 22) 10 h, ar cI (mA 8) 40 fCR, ar cI (mA 14) 40 fLF, ar cI (mA 7) 40 fDB] → va_S A s.heap H locs → ∀ ls : Array Slot, lv_has ls 7 [(0, .ref aM), (1, .int k), (2, .int x), (3, .int (nI j))] → W p l e r_c_X8_move s m (([.ref aM, .int k, .int x] : List Value).toArray) below meth c H locs 0 0 Q (F0 m 22 ls []) := by
          intro n_22
          induction n_22 with
          | zero => intro j h hfu; exact absurd hfu (Nat.not_lt_zero _)
          | succ n_22 ih_22 =>
            intro j h hfu_22 hj hh H locs hP hD hS ls hl
            refine lv_iload_n hx hb dX8_move_22 rfl (lv_at hl 3 rfl) ?_
            refine lv_aload_n hx hb dX8_move_23 rfl (lv_at hl 0 rfl) ?_
            refine va_get (D := D) (ci := 8) (v := .int (nI nm)) (C := RX8) (T := TX8) (N := 44) hx hb hts inX8 hown hK hP 0 rfl rfl 4 (by decide) fl94 (fun _ h9 => h9) rfl dX8_move_24 ?_
            refine lv_icmp_ge (tgt := 47) hx hb dX8_move_27 (by decide) (fun c_27 => ?_) (fun c_27 => ?_)
            · skip
              have k_27 : nm ≤ j := (nI_leI (a := nm) (b := j) (by omega) (by omega)).mp c_27
              refine lv_iconst (v := 0) hx hb dX8_move_47 (by decide) ?_
              refine lv_istore_n (lv' := [(3, .int 0), (0, .ref aM), (1, .int k), (2, .int x)]) hx hb dX8_move_48 rfl hl (by decide) rfl (fun ls hl => ?_)
              refine lv_iconst (v := 0) hx hb dX8_move_49 (by decide) ?_
              refine lv_istore (lv' := [(4, .int 0), (3, .int 0), (0, .ref aM), (1, .int k), (2, .int x)]) hx hb dX8_move_50 hl (by decide) rfl (fun ls hl => ?_)
              refine lv_iconst (v := 0) hx hb dX8_move_52 (by decide) ?_
              refine lv_istore (lv' := [(5, .int 0), (4, .int 0), (3, .int 0), (0, .ref aM), (1, .int k), (2, .int x)]) hx hb dX8_move_53 hl (by decide) rfl (fun ls hl => ?_)
              have L_55 : ∀ (n_55 : Nat) (z : Nat → Int32) (mv : Nat) (pa : Nat) (ge : Nat) (L : List (Nat × Nat × Int32)), ((nm - pa) + (nm - ge) + nz z nm < n_55) → (pa ≤ nm) → (ge ≤ nm) → ((remR nm (z, L) pa ge).2 = (movesL fCR fDB fLF np nm)) → (∀ j, j < ge → ¬ 0 < z j) → (mv = L.length) → (∀ j, j < mv → ¬ nI j = k) → (mv + nz z nm ≤ 10) → ∀ (H : Heap) (locs : List Loc), va_P D vwCl [mo aM mA (nI nt) 0 td (nI nm) (nI np) isd ln rf rp sz nx kd wh pl rd rn ic mcm mcp mcr, ar cI (mA 22) 10 z, ar cI (mA 8) 40 fCR, ar cI (mA 14) 40 fLF, ar cI (mA 7) 40 fDB] H → va_D A [mo aM mA (nI nt) 0 td (nI nm) (nI np) isd ln rf rp sz nx kd wh pl rd rn ic mcm mcp mcr, ar cI (mA 22) 10 z, ar cI (mA 8) 40 fCR, ar cI (mA 14) 40 fLF, ar cI (mA 7) 40 fDB] → va_S A s.heap H locs → ∀ ls : Array Slot, lv_has ls 7 [(0, .ref aM), (1, .int k), (2, .int x), (3, .int (nI mv)), (4, .int (nI pa)), (5, .int (nI ge))] → W p l e r_c_X8_move s m (([.ref aM, .int k, .int x] : List Value).toArray) below meth c H locs 0 0 Q (F0 m 55 ls []) := by
                intro n_55
                induction n_55 with
                | zero => intro z mv pa ge L hfu; exact absurd hfu (Nat.not_lt_zero _)
                | succ n_55 ih_55 =>
                  intro z mv pa ge L hfu_55 hp hg h2 h3 h4 h5 h6 H locs hP hD hS ls hl
                  refine lv_iload hx hb dX8_move_55 (lv_at hl 4 rfl) ?_
                  refine lv_aload_n hx hb dX8_move_57 rfl (lv_at hl 0 rfl) ?_
                  refine va_get (D := D) (ci := 8) (v := .int (nI nm)) (C := RX8) (T := TX8) (N := 44) hx hb hts inX8 hown hK hP 0 rfl rfl 4 (by decide) fl94 (fun _ h9 => h9) rfl dX8_move_58 ?_
                  refine lv_icmp_ge (tgt := 200) hx hb dX8_move_61 (by decide) (fun c_61 => ?_) (fun c_61 => ?_)
                  · skip
                    have k_61 : nm ≤ pa := (nI_leI (a := nm) (b := pa) (by omega) (by omega)).mp c_61
                    refine lv_iconst (v := (-1)) hx hb dX8_move_200 (by decide) ?_
                    exact ret (-1) z _ _ _ _ dX8_move_201 (by have h10 := movesL_few fCR fDB fLF np nm; have e : (z, L) = remR nm (z, L) pa ge := (remR_end (by first | exact Or.inl k_61 | exact Or.inr ⟨k_70, fun j hj => h3 j (by omega)⟩)).symm; have e2 : L = (movesL fCR fDB fLF np nm) := (by rw [← h2, ← e]); rw [← e2]; rw [← e2] at h10; exact (mvAns_none (by omega) c_6 (by rw [← h4]; exact h5)).symm) (hP) (hD) hS
                  · skip
                    have k_61 : ¬ nm ≤ pa := fun h9 => c_61 ((nI_leI (a := nm) (b := pa) (by omega) (by omega)).mpr h9)
                    refine lv_iload hx hb dX8_move_64 (lv_at hl 5 rfl) ?_
                    refine lv_aload_n hx hb dX8_move_66 rfl (lv_at hl 0 rfl) ?_
                    refine va_get (D := D) (ci := 8) (v := .int (nI nm)) (C := RX8) (T := TX8) (N := 44) hx hb hts inX8 hown hK hP 0 rfl rfl 4 (by decide) fl94 (fun _ h9 => h9) rfl dX8_move_67 ?_
                    refine lv_icmp_ge (tgt := 200) hx hb dX8_move_70 (by decide) (fun c_70 => ?_) (fun c_70 => ?_)
                    · skip
                      have k_70 : nm ≤ ge := (nI_leI (a := nm) (b := ge) (by omega) (by omega)).mp c_70
                      refine lv_iconst (v := (-1)) hx hb dX8_move_200 (by decide) ?_
                      exact ret (-1) z _ _ _ _ dX8_move_201 (by have h10 := movesL_few fCR fDB fLF np nm; have e : (z, L) = remR nm (z, L) pa ge := (remR_end (by first | exact Or.inl k_61 | exact Or.inr ⟨k_70, fun j hj => h3 j (by omega)⟩)).symm; have e2 : L = (movesL fCR fDB fLF np nm) := (by rw [← h2, ← e]); rw [← e2]; rw [← e2] at h10; exact (mvAns_none (by omega) c_6 (by rw [← h4]; exact h5)).symm) (hP) (hD) hS
                    · skip
                      have k_70 : ¬ nm ≤ ge := fun h9 => c_70 ((nI_leI (a := nm) (b := ge) (by omega) (by omega)).mpr h9)
                      refine lv_aload_n hx hb dX8_move_73 rfl (lv_at hl 0 rfl) ?_
                      refine va_get (D := D) (ci := 8) (v := .ref (mA 22)) (C := RX8) (T := TX8) (N := 44) hx hb hts inX8 hown hK hP 0 rfl rfl 22 (by decide) fl54 (fun _ h9 => h9) rfl dX8_move_74 ?_
                      refine lv_iload hx hb dX8_move_77 (lv_at hl 4 rfl) ?_
                      refine m_iald (k := pa) hx hb hK hP 1 0 rfl rfl (by omega) (by decide) dX8_move_79 ?_
                      refine lv_if_lt (tgt := 89) hx hb dX8_move_80 (by decide) (fun c_80 => ?_) (fun c_80 => ?_)
                      · skip
                        refine lv_aload_n hx hb dX8_move_89 rfl (lv_at hl 0 rfl) ?_
                        refine va_get (D := D) (ci := 8) (v := .ref (mA 22)) (C := RX8) (T := TX8) (N := 44) hx hb hts inX8 hown hK hP 0 rfl rfl 22 (by decide) fl54 (fun _ h9 => h9) rfl dX8_move_90 ?_
                        refine lv_iload hx hb dX8_move_93 (lv_at hl 5 rfl) ?_
                        refine m_iald (k := ge) hx hb hK hP 1 0 rfl rfl (by omega) (by decide) dX8_move_95 ?_
                        refine lv_if_gt (tgt := 105) hx hb dX8_move_96 (by decide) (fun c_96 => ?_) (fun c_96 => ?_)
                        · skip
                          have c96 : 0 < z ge := c_96
                          refine lv_aload_n hx hb dX8_move_105 rfl (lv_at hl 0 rfl) ?_
                          refine va_get (D := D) (ci := 8) (v := .ref (mA 22)) (C := RX8) (T := TX8) (N := 44) hx hb hts inX8 hown hK hP 0 rfl rfl 22 (by decide) fl54 (fun _ h9 => h9) rfl dX8_move_106 ?_
                          refine lv_iload hx hb dX8_move_109 (lv_at hl 4 rfl) ?_
                          refine m_iald (k := pa) hx hb hK hP 1 0 rfl rfl (by omega) (by decide) dX8_move_111 ?_
                          refine lv_ineg hx hb dX8_move_112 ?_
                          refine lv_aload_n hx hb dX8_move_113 rfl (lv_at hl 0 rfl) ?_
                          refine va_get (D := D) (ci := 8) (v := .ref (mA 22)) (C := RX8) (T := TX8) (N := 44) hx hb hts inX8 hown hK hP 0 rfl rfl 22 (by decide) fl54 (fun _ h9 => h9) rfl dX8_move_114 ?_
                          refine lv_iload hx hb dX8_move_117 (lv_at hl 5 rfl) ?_
                          refine m_iald (k := ge) hx hb hK hP 1 0 rfl rfl (by omega) (by decide) dX8_move_119 ?_
                          refine lv_icmp_ge (tgt := 134) hx hb dX8_move_120 (by decide) (fun c_120 => ?_) (fun c_120 => ?_)
                          · skip
                            refine lv_aload_n hx hb dX8_move_134 rfl (lv_at hl 0 rfl) ?_
                            refine va_get (D := D) (ci := 8) (v := .ref (mA 22)) (C := RX8) (T := TX8) (N := 44) hx hb hts inX8 hown hK hP 0 rfl rfl 22 (by decide) fl54 (fun _ h9 => h9) rfl dX8_move_135 ?_
                            refine lv_iload hx hb dX8_move_138 (lv_at hl 5 rfl) ?_
                            refine m_iald (k := ge) hx hb hK hP 1 0 rfl rfl (by omega) (by decide) dX8_move_140 ?_
                            refine lv_istore (lv' := [(6, .int (z ge)), (0, .ref aM), (1, .int k), (2, .int x), (3, .int (nI mv)), (4, .int (nI pa)), (5, .int (nI ge))]) hx hb dX8_move_141 hl (by decide) rfl (fun ls hl => ?_)
                            have hmn : mn z pa ge = (z ge) := (by first | exact mn_a c_120 | exact mn_b c_120)
                            refine lv_iload_n hx hb dX8_move_143 rfl (lv_at hl 4 rfl) ?_
                            refine lv_iload_n hx hb dX8_move_144 rfl (lv_at hl 2 rfl) ?_
                            refine lv_icmp_ne (tgt := 170) hx hb dX8_move_145 (by decide) (fun c_145 => ?_) (fun c_145 => ?_)
                            · skip
                              refine lv_aload_n hx hb dX8_move_170 rfl (lv_at hl 1 rfl) ?_
                              refine va_get (D := D) (ci := 8) (v := .ref (mA 22)) (C := RX8) (T := TX8) (N := 44) hx hb hts inX8 hown hK hP 0 rfl rfl 22 (by decide) fl54 (fun _ h9 => h9) rfl dX8_move_171 ?_
                              refine lv_iload hx hb dX8_move_174 (lv_at hl 5 rfl) ?_
                              refine lv_dup2_11 hx hb dX8_move_176 rfl rfl ?_
                              refine m_iald (k := pa) hx hb hK hP 1 0 rfl rfl (by omega) (by decide) dX8_move_177 ?_
                              refine lv_iload hx hb dX8_move_178 (lv_at hl 0 rfl) ?_
                              refine lv_iadd hx hb dX8_move_180 ?_
                              refine m_iast (k := pa) (x := ((z pa) + (z ge))) hx hb hK hP hD hS 1 0 rfl rfl (by omega) (by decide) dX8_move_181 (fun H locs hP hD hS => ?_)
                              have hP : va_P D vwCl [mo aM mA (nI nt) 0 td (nI nm) (nI np) isd ln rf rp sz nx kd wh pl rd rn ic mcm mcp mcr, ar cI (mA 22) 10 (upd z pa ((z pa) + (z ge))), ar cI (mA 8) 40 fCR, ar cI (mA 14) 40 fLF, ar cI (mA 7) 40 fDB] H := hP
                              have hD : va_D A [mo aM mA (nI nt) 0 td (nI nm) (nI np) isd ln rf rp sz nx kd wh pl rd rn ic mcm mcp mcr, ar cI (mA 22) 10 (upd z pa ((z pa) + (z ge))), ar cI (mA 8) 40 fCR, ar cI (mA 14) 40 fLF, ar cI (mA 7) 40 fDB] := hD
                              refine lv_aload_n hx hb dX8_move_182 rfl (lv_at hl 1 rfl) ?_
                              refine va_get (D := D) (ci := 8) (v := .ref (mA 22)) (C := RX8) (T := TX8) (N := 44) hx hb hts inX8 hown hK hP 0 rfl rfl 22 (by decide) fl54 (fun _ h9 => h9) rfl dX8_move_183 ?_
                              refine lv_iload hx hb dX8_move_186 (lv_at hl 6 rfl) ?_
                              refine lv_dup2_11 hx hb dX8_move_188 rfl rfl ?_
                              refine m_iald (k := ge) hx hb hK hP 1 0 rfl rfl (by omega) (by decide) dX8_move_189 ?_
                              refine lv_iload hx hb dX8_move_190 (lv_at hl 0 rfl) ?_
                              refine lv_isub hx hb dX8_move_192 ?_
                              refine m_iast (k := ge) (x := (((upd z pa ((z pa) + (z ge))) ge) - (z ge))) hx hb hK hP hD hS 1 0 rfl rfl (by omega) (by decide) dX8_move_193 (fun H locs hP hD hS => ?_)
                              have hP : va_P D vwCl [mo aM mA (nI nt) 0 td (nI nm) (nI np) isd ln rf rp sz nx kd wh pl rd rn ic mcm mcp mcr, ar cI (mA 22) 10 (upd (upd z pa ((z pa) + (z ge))) ge (((upd z pa ((z pa) + (z ge))) ge) - (z ge))), ar cI (mA 8) 40 fCR, ar cI (mA 14) 40 fLF, ar cI (mA 7) 40 fDB] H := hP
                              have hD : va_D A [mo aM mA (nI nt) 0 td (nI nm) (nI np) isd ln rf rp sz nx kd wh pl rd rn ic mcm mcp mcr, ar cI (mA 22) 10 (upd (upd z pa ((z pa) + (z ge))) ge (((upd z pa ((z pa) + (z ge))) ge) - (z ge))), ar cI (mA 8) 40 fCR, ar cI (mA 14) 40 fLF, ar cI (mA 7) 40 fDB] := hD
                              refine lv_iinc (v := (nI (mv + 1))) (lv' := [(3, .int (nI (mv + 1))), (6, .int (z ge)), (0, .ref aM), (1, .int k), (2, .int x), (4, .int (nI pa)), (5, .int (nI ge))]) hx hb dX8_move_194 hl (k := 4) rfl (nI_inc mv 1 (by decide)) (by decide) rfl (fun ls hl => ?_)
                              refine lv_goto (tgt := 55) hx hb dX8_move_197 (by decide) ?_
                              have hnz := nz_mvz (n := nm) (p := pa) (g := ge) (z := z) (by omega) (by omega) c_80 c96
                              have hmv : (upd (upd z pa ((z pa) + (z ge))) ge (((upd z pa ((z pa) + (z ge))) ge) - (z ge))) = mvz z pa ge := (by unfold mvz; rw [hmn])
                              exact ih_55 (upd (upd z pa ((z pa) + (z ge))) ge (((upd z pa ((z pa) + (z ge))) ge) - (z ge))) (mv + 1) pa ge (L ++ [(pa, ge, mn z pa ge)]) (by rw [hmv]; omega) (by omega) (by omega) (by rw [hmv, ← h2, remR_move (by omega) (by omega) c_80 c96]) (by intro j hj; rw [hmv]; exact fun q => absurd q (mv_low h3 c_80 c96 hj)) (by simp [h4]) (by intro j hj; by_cases q : j = mv; rw [q]; exact c_145; exact h5 j (by omega)) (by rw [hmv]; omega) _ _ (hP) (hD) hS ls (lv_sub hl [2, 3, 4, 0, 5, 6] rfl)
                            · skip
                              refine lv_iload_n hx hb dX8_move_148 rfl (lv_at hl 3 rfl) ?_
                              refine lv_if_ne (tgt := 157) hx hb dX8_move_149 (by decide) (fun c_149 => ?_) (fun c_149 => ?_)
                              · skip
                                refine lv_iload_n hx hb dX8_move_157 rfl (lv_at hl 3 rfl) ?_
                                refine lv_iconst (v := 1) hx hb dX8_move_158 (by decide) ?_
                                refine lv_icmp_ne (tgt := 167) hx hb dX8_move_159 (by decide) (fun c_159 => ?_) (fun c_159 => ?_)
                                · skip
                                  refine lv_iload hx hb dX8_move_167 (lv_at hl 0 rfl) ?_
                                  exact ret (z ge) z _ _ _ _ dX8_move_169 (by have h10 := movesL_few fCR fDB fLF np nm; obtain ⟨M, hM⟩ := remR_app nm (mvz z pa ge, L ++ [(pa, ge, mn z pa ge)]) pa ge; rw [← remR_move (by omega) (by omega) c_80 c96, h2] at hM; rw [← c_145, h4, mvAns_hit hM (by omega)]; first | rw [if_pos c_149] | (rw [if_neg c_149, if_pos c_159]) | (rw [if_neg c_149, if_neg c_159, if_pos (x2_of c_10 c_15 c_149 c_159), hmn])) (hP) (hD) hS
                                · skip
                                  refine lv_iload hx hb dX8_move_162 (lv_at hl 6 rfl) ?_
                                  refine lv_goto (tgt := 169) hx hb dX8_move_164 (by decide) ?_
                                  exact ret (nI ge) z _ _ _ _ dX8_move_169 (by have h10 := movesL_few fCR fDB fLF np nm; obtain ⟨M, hM⟩ := remR_app nm (mvz z pa ge, L ++ [(pa, ge, mn z pa ge)]) pa ge; rw [← remR_move (by omega) (by omega) c_80 c96, h2] at hM; rw [← c_145, h4, mvAns_hit hM (by omega)]; first | rw [if_pos c_149] | (rw [if_neg c_149, if_pos c_159]) | (rw [if_neg c_149, if_neg c_159, if_pos (x2_of c_10 c_15 c_149 c_159), hmn])) (hP) (hD) hS
                              · skip
                                refine lv_iload hx hb dX8_move_152 (lv_at hl 5 rfl) ?_
                                refine lv_goto (tgt := 169) hx hb dX8_move_154 (by decide) ?_
                                exact ret (nI pa) z _ _ _ _ dX8_move_169 (by have h10 := movesL_few fCR fDB fLF np nm; obtain ⟨M, hM⟩ := remR_app nm (mvz z pa ge, L ++ [(pa, ge, mn z pa ge)]) pa ge; rw [← remR_move (by omega) (by omega) c_80 c96, h2] at hM; rw [← c_145, h4, mvAns_hit hM (by omega)]; first | rw [if_pos c_149] | (rw [if_neg c_149, if_pos c_159]) | (rw [if_neg c_149, if_neg c_159, if_pos (x2_of c_10 c_15 c_149 c_159), hmn])) (hP) (hD) hS
                          · skip
                            refine lv_aload_n hx hb dX8_move_123 rfl (lv_at hl 0 rfl) ?_
                            refine va_get (D := D) (ci := 8) (v := .ref (mA 22)) (C := RX8) (T := TX8) (N := 44) hx hb hts inX8 hown hK hP 0 rfl rfl 22 (by decide) fl54 (fun _ h9 => h9) rfl dX8_move_124 ?_
                            refine lv_iload hx hb dX8_move_127 (lv_at hl 4 rfl) ?_
                            refine m_iald (k := pa) hx hb hK hP 1 0 rfl rfl (by omega) (by decide) dX8_move_129 ?_
                            refine lv_ineg hx hb dX8_move_130 ?_
                            refine lv_goto (tgt := 141) hx hb dX8_move_131 (by decide) ?_
                            refine lv_istore (lv' := [(6, .int (-(z pa))), (0, .ref aM), (1, .int k), (2, .int x), (3, .int (nI mv)), (4, .int (nI pa)), (5, .int (nI ge))]) hx hb dX8_move_141 hl (by decide) rfl (fun ls hl => ?_)
                            have hmn : mn z pa ge = (-(z pa)) := (by first | exact mn_a c_120 | exact mn_b c_120)
                            refine lv_iload_n hx hb dX8_move_143 rfl (lv_at hl 4 rfl) ?_
                            refine lv_iload_n hx hb dX8_move_144 rfl (lv_at hl 2 rfl) ?_
                            refine lv_icmp_ne (tgt := 170) hx hb dX8_move_145 (by decide) (fun c_145 => ?_) (fun c_145 => ?_)
                            · skip
                              refine lv_aload_n hx hb dX8_move_170 rfl (lv_at hl 1 rfl) ?_
                              refine va_get (D := D) (ci := 8) (v := .ref (mA 22)) (C := RX8) (T := TX8) (N := 44) hx hb hts inX8 hown hK hP 0 rfl rfl 22 (by decide) fl54 (fun _ h9 => h9) rfl dX8_move_171 ?_
                              refine lv_iload hx hb dX8_move_174 (lv_at hl 5 rfl) ?_
                              refine lv_dup2_11 hx hb dX8_move_176 rfl rfl ?_
                              refine m_iald (k := pa) hx hb hK hP 1 0 rfl rfl (by omega) (by decide) dX8_move_177 ?_
                              refine lv_iload hx hb dX8_move_178 (lv_at hl 0 rfl) ?_
                              refine lv_iadd hx hb dX8_move_180 ?_
                              refine m_iast (k := pa) (x := ((z pa) + (-(z pa)))) hx hb hK hP hD hS 1 0 rfl rfl (by omega) (by decide) dX8_move_181 (fun H locs hP hD hS => ?_)
                              have hP : va_P D vwCl [mo aM mA (nI nt) 0 td (nI nm) (nI np) isd ln rf rp sz nx kd wh pl rd rn ic mcm mcp mcr, ar cI (mA 22) 10 (upd z pa ((z pa) + (-(z pa)))), ar cI (mA 8) 40 fCR, ar cI (mA 14) 40 fLF, ar cI (mA 7) 40 fDB] H := hP
                              have hD : va_D A [mo aM mA (nI nt) 0 td (nI nm) (nI np) isd ln rf rp sz nx kd wh pl rd rn ic mcm mcp mcr, ar cI (mA 22) 10 (upd z pa ((z pa) + (-(z pa)))), ar cI (mA 8) 40 fCR, ar cI (mA 14) 40 fLF, ar cI (mA 7) 40 fDB] := hD
                              refine lv_aload_n hx hb dX8_move_182 rfl (lv_at hl 1 rfl) ?_
                              refine va_get (D := D) (ci := 8) (v := .ref (mA 22)) (C := RX8) (T := TX8) (N := 44) hx hb hts inX8 hown hK hP 0 rfl rfl 22 (by decide) fl54 (fun _ h9 => h9) rfl dX8_move_183 ?_
                              refine lv_iload hx hb dX8_move_186 (lv_at hl 6 rfl) ?_
                              refine lv_dup2_11 hx hb dX8_move_188 rfl rfl ?_
                              refine m_iald (k := ge) hx hb hK hP 1 0 rfl rfl (by omega) (by decide) dX8_move_189 ?_
                              refine lv_iload hx hb dX8_move_190 (lv_at hl 0 rfl) ?_
                              refine lv_isub hx hb dX8_move_192 ?_
                              refine m_iast (k := ge) (x := (((upd z pa ((z pa) + (-(z pa)))) ge) - (-(z pa)))) hx hb hK hP hD hS 1 0 rfl rfl (by omega) (by decide) dX8_move_193 (fun H locs hP hD hS => ?_)
                              have hP : va_P D vwCl [mo aM mA (nI nt) 0 td (nI nm) (nI np) isd ln rf rp sz nx kd wh pl rd rn ic mcm mcp mcr, ar cI (mA 22) 10 (upd (upd z pa ((z pa) + (-(z pa)))) ge (((upd z pa ((z pa) + (-(z pa)))) ge) - (-(z pa)))), ar cI (mA 8) 40 fCR, ar cI (mA 14) 40 fLF, ar cI (mA 7) 40 fDB] H := hP
                              have hD : va_D A [mo aM mA (nI nt) 0 td (nI nm) (nI np) isd ln rf rp sz nx kd wh pl rd rn ic mcm mcp mcr, ar cI (mA 22) 10 (upd (upd z pa ((z pa) + (-(z pa)))) ge (((upd z pa ((z pa) + (-(z pa)))) ge) - (-(z pa)))), ar cI (mA 8) 40 fCR, ar cI (mA 14) 40 fLF, ar cI (mA 7) 40 fDB] := hD
                              refine lv_iinc (v := (nI (mv + 1))) (lv' := [(3, .int (nI (mv + 1))), (6, .int (-(z pa))), (0, .ref aM), (1, .int k), (2, .int x), (4, .int (nI pa)), (5, .int (nI ge))]) hx hb dX8_move_194 hl (k := 4) rfl (nI_inc mv 1 (by decide)) (by decide) rfl (fun ls hl => ?_)
                              refine lv_goto (tgt := 55) hx hb dX8_move_197 (by decide) ?_
                              have hnz := nz_mvz (n := nm) (p := pa) (g := ge) (z := z) (by omega) (by omega) c_80 c96
                              have hmv : (upd (upd z pa ((z pa) + (-(z pa)))) ge (((upd z pa ((z pa) + (-(z pa)))) ge) - (-(z pa)))) = mvz z pa ge := (by unfold mvz; rw [hmn])
                              exact ih_55 (upd (upd z pa ((z pa) + (-(z pa)))) ge (((upd z pa ((z pa) + (-(z pa)))) ge) - (-(z pa)))) (mv + 1) pa ge (L ++ [(pa, ge, mn z pa ge)]) (by rw [hmv]; omega) (by omega) (by omega) (by rw [hmv, ← h2, remR_move (by omega) (by omega) c_80 c96]) (by intro j hj; rw [hmv]; exact fun q => absurd q (mv_low h3 c_80 c96 hj)) (by simp [h4]) (by intro j hj; by_cases q : j = mv; rw [q]; exact c_145; exact h5 j (by omega)) (by rw [hmv]; omega) _ _ (hP) (hD) hS ls (lv_sub hl [2, 3, 4, 0, 5, 6] rfl)
                            · skip
                              refine lv_iload_n hx hb dX8_move_148 rfl (lv_at hl 3 rfl) ?_
                              refine lv_if_ne (tgt := 157) hx hb dX8_move_149 (by decide) (fun c_149 => ?_) (fun c_149 => ?_)
                              · skip
                                refine lv_iload_n hx hb dX8_move_157 rfl (lv_at hl 3 rfl) ?_
                                refine lv_iconst (v := 1) hx hb dX8_move_158 (by decide) ?_
                                refine lv_icmp_ne (tgt := 167) hx hb dX8_move_159 (by decide) (fun c_159 => ?_) (fun c_159 => ?_)
                                · skip
                                  refine lv_iload hx hb dX8_move_167 (lv_at hl 0 rfl) ?_
                                  exact ret (-(z pa)) z _ _ _ _ dX8_move_169 (by have h10 := movesL_few fCR fDB fLF np nm; obtain ⟨M, hM⟩ := remR_app nm (mvz z pa ge, L ++ [(pa, ge, mn z pa ge)]) pa ge; rw [← remR_move (by omega) (by omega) c_80 c96, h2] at hM; rw [← c_145, h4, mvAns_hit hM (by omega)]; first | rw [if_pos c_149] | (rw [if_neg c_149, if_pos c_159]) | (rw [if_neg c_149, if_neg c_159, if_pos (x2_of c_10 c_15 c_149 c_159), hmn])) (hP) (hD) hS
                                · skip
                                  refine lv_iload hx hb dX8_move_162 (lv_at hl 6 rfl) ?_
                                  refine lv_goto (tgt := 169) hx hb dX8_move_164 (by decide) ?_
                                  exact ret (nI ge) z _ _ _ _ dX8_move_169 (by have h10 := movesL_few fCR fDB fLF np nm; obtain ⟨M, hM⟩ := remR_app nm (mvz z pa ge, L ++ [(pa, ge, mn z pa ge)]) pa ge; rw [← remR_move (by omega) (by omega) c_80 c96, h2] at hM; rw [← c_145, h4, mvAns_hit hM (by omega)]; first | rw [if_pos c_149] | (rw [if_neg c_149, if_pos c_159]) | (rw [if_neg c_149, if_neg c_159, if_pos (x2_of c_10 c_15 c_149 c_159), hmn])) (hP) (hD) hS
                              · skip
                                refine lv_iload hx hb dX8_move_152 (lv_at hl 5 rfl) ?_
                                refine lv_goto (tgt := 169) hx hb dX8_move_154 (by decide) ?_
                                exact ret (nI pa) z _ _ _ _ dX8_move_169 (by have h10 := movesL_few fCR fDB fLF np nm; obtain ⟨M, hM⟩ := remR_app nm (mvz z pa ge, L ++ [(pa, ge, mn z pa ge)]) pa ge; rw [← remR_move (by omega) (by omega) c_80 c96, h2] at hM; rw [← c_145, h4, mvAns_hit hM (by omega)]; first | rw [if_pos c_149] | (rw [if_neg c_149, if_pos c_159]) | (rw [if_neg c_149, if_neg c_159, if_pos (x2_of c_10 c_15 c_149 c_159), hmn])) (hP) (hD) hS
                        · skip
                          refine lv_iinc (v := (nI (ge + 1))) (lv' := [(5, .int (nI (ge + 1))), (0, .ref aM), (1, .int k), (2, .int x), (3, .int (nI mv)), (4, .int (nI pa))]) hx hb dX8_move_99 hl (k := 5) rfl (nI_inc ge 1 (by decide)) (by decide) rfl (fun ls hl => ?_)
                          refine lv_goto (tgt := 55) hx hb dX8_move_102 (by decide) ?_
                          exact ih_55 z mv pa (ge + 1) L (by omega) (by omega) (by omega) (by rw [← h2, remR_get (s := (z, L)) (by omega) (by omega) c_96]) (by intro j hj; by_cases q : j = ge; rw [q]; exact c_96; exact h3 j (by omega)) (h4) (h5) (h6) _ _ (hP) (hD) hS ls (lv_sub hl [1, 2, 3, 4, 5, 0] rfl)
                      · skip
                        refine lv_iinc (v := (nI (pa + 1))) (lv' := [(4, .int (nI (pa + 1))), (0, .ref aM), (1, .int k), (2, .int x), (3, .int (nI mv)), (5, .int (nI ge))]) hx hb dX8_move_83 hl (k := 4) rfl (nI_inc pa 1 (by decide)) (by decide) rfl (fun ls hl => ?_)
                        refine lv_goto (tgt := 55) hx hb dX8_move_86 (by decide) ?_
                        exact ih_55 z mv (pa + 1) ge L (by omega) (by omega) (by omega) (by rw [← h2, remR_pay (s := (z, L)) (by omega) (by omega) c_80 h3]) (h3) (h4) (h5) (h6) _ _ (hP) (hD) hS ls (lv_sub hl [1, 2, 3, 4, 0, 5] rfl)
              exact L_55 (((nm - 0) + (nm - 0) + nz h nm) + 1) h 0 0 0 ([]) (Nat.lt_succ_self _) (by omega) (by omega) (by have e : j = nm := (by omega); rw [remR_start]; exact (allR_agr (by omega) (agr_fil (e ▸ hh))).2) (fun j hj => absurd hj (Nat.not_lt_zero _)) (rfl) (fun j hj => absurd hj (Nat.not_lt_zero _)) (by have := nz_le h nm; omega) _ _ (hP) (hD) hS ls (lv_sub hl [3, 4, 5, 2, 1, 0] rfl)
            · skip
              have k_27 : ¬ nm ≤ j := fun h9 => c_27 ((nI_leI (a := nm) (b := j) (by omega) (by omega)).mpr h9)
              refine lv_aload_n hx hb dX8_move_30 rfl (lv_at hl 0 rfl) ?_
              refine va_get (D := D) (ci := 8) (v := .ref (mA 22)) (C := RX8) (T := TX8) (N := 44) hx hb hts inX8 hown hK hP 0 rfl rfl 22 (by decide) fl54 (fun _ h9 => h9) rfl dX8_move_31 ?_
              refine lv_iload_n hx hb dX8_move_34 rfl (lv_at hl 3 rfl) ?_
              refine lv_aload_n hx hb dX8_move_35 rfl (lv_at hl 0 rfl) ?_
              refine lv_iload_n hx hb dX8_move_36 rfl (lv_at hl 3 rfl) ?_
              refine m_cVi (As := [.int (nI j)]) (rest := [.int (nI j), .ref (mA 22)]) (wr := [ar cI (mA 22) 10 h]) ⟨hx, hb, hml, hown, hts⟩ (c_X8_netOf l D cI cZ aM mA nt 0 td nm np isd ln rf rp sz nx kd wh pl rd rn ic mcm mcp mcr fCR fLF fDB (nI j) (by first | assumption | omega)) (cwV 1 hts gX8_move_X8_netOf rfl rfl rfl (by decide +kernel) ⟨Nat.le_of_ble_eq_true rfl, Nat.le_of_ble_eq_true rfl⟩) hN hK hP hD hS hA [0, 2, 3, 4] [1] rfl rfl (by decide) (by decide) (by decide) 0 (ci := 8) rfl rfl rfl rfl hl.1 rfl (Nat.le_of_ble_eq_true rfl) dX8_move_37 ⟨Nat.le_of_ble_eq_true rfl, Nat.le_of_ble_eq_true rfl⟩ (fun r_37 u_37 H locs hq_37 hP hD hS => ?_)
              have hq_37 : r_37 = netS fCR fDB fLF (nI j) np := hq_37
              have hP : va_P D vwCl [ar cI (mA 22) 10 h, mo aM mA (nI nt) 0 td (nI nm) (nI np) isd ln rf rp sz nx kd wh pl rd rn ic mcm mcp mcr, ar cI (mA 8) 40 fCR, ar cI (mA 14) 40 fLF, ar cI (mA 7) 40 fDB] H := hP
              have hD : va_D A [ar cI (mA 22) 10 h, mo aM mA (nI nt) 0 td (nI nm) (nI np) isd ln rf rp sz nx kd wh pl rd rn ic mcm mcp mcr, ar cI (mA 8) 40 fCR, ar cI (mA 14) 40 fLF, ar cI (mA 7) 40 fDB] := hD
              refine m_iast (k := j) (x := r_37) hx hb hK hP hD hS 0 0 rfl rfl (by omega) (by decide) dX8_move_40 (fun H locs hP hD hS => ?_)
              have hP : va_P D vwCl [ar cI (mA 22) 10 (upd h j r_37), mo aM mA (nI nt) 0 td (nI nm) (nI np) isd ln rf rp sz nx kd wh pl rd rn ic mcm mcp mcr, ar cI (mA 8) 40 fCR, ar cI (mA 14) 40 fLF, ar cI (mA 7) 40 fDB] H := hP
              have hD : va_D A [ar cI (mA 22) 10 (upd h j r_37), mo aM mA (nI nt) 0 td (nI nm) (nI np) isd ln rf rp sz nx kd wh pl rd rn ic mcm mcp mcr, ar cI (mA 8) 40 fCR, ar cI (mA 14) 40 fLF, ar cI (mA 7) 40 fDB] := hD
              refine lv_iinc (v := (nI (j + 1))) (lv' := [(3, .int (nI (j + 1))), (0, .ref aM), (1, .int k), (2, .int x)]) hx hb dX8_move_41 hl (k := 3) rfl (nI_inc j 1 (by decide)) (by decide) rfl (fun ls hl => ?_)
              refine lv_goto (tgt := 22) hx hb dX8_move_44 (by decide) ?_
              exact ih_22 (j + 1) (upd h j r_37) (by omega) (by omega) (fil_step hh hq_37) _ _ (hP.sub [1, 0, 2, 3, 4] rfl) (hD.sub [1, 0, 2, 3, 4] (by decide) rfl) hS ls (lv_sub hl [1, 2, 3, 0] rfl)
        exact L_22 ((nm - 0) + 1) 0 fNT (Nat.lt_succ_self _) (by omega) (fil_0.symm) _ _ (hP) (hD) hS ls (lv_sub hl [1, 2, 3, 0] rfl)
      · skip
        refine lv_iconst (v := (-1)) hx hb dX8_move_18 (by decide) ?_
        exact ret (-1) fNT _ _ _ _ dX8_move_19 (by rw [mvAns_what (by first | exact Or.inl c_6 | exact Or.inr (Or.inl c_10) | exact Or.inr (Or.inr c_15))]) (hP) (hD) hS
abbrev r_c_X8_boat : Room := { frames := 1, cells := 0, slots := 0, locals := 21 }
set_option maxHeartbeats 4000000 in
set_option maxRecDepth 100000 in
theorem c_X8_boat (l : Launch) (D : va_G) (cI cZ : ClassId) (aM : Nat) (mA : Nat → Nat) (nt : Nat) (th : Int32) (td : Int32) (nm : Nat) (np : Nat) (isd : Int32) (ln : Int32) (rf : Int32) (rp : Int32) (sz : Int32) (nx : Int32) (kd : Int32) (wh : Int32) (pl : Int32) (rd : Int32) (rn : Int32) (ic : Int32) (mcm : Int32) (mcp : Int32) (mcr : Int32) (fPU : Nat → Int32) (ga : Int32) (x : Int32) (y : Int32) (v : Nat) (hnm : nm ≤ 10) (hv : v < 2 ^ 32) : MI l yX8_boat wsX8_boat r_c_X8_boat D cI cZ [.ref aM, .int ga, .int x, .int y, .int (nI v)] [mo aM mA (nI nt) th td (nI nm) (nI np) isd ln rf rp sz nx kd wh pl rd rn ic mcm mcp mcr, ar cI (mA 5) 10 fPU] (fun (r : Int32) (u : (Nat → Int32)) => ((0 ≤ ga ∧ ga ≤ 9999 ∧ (0 ≤ x ∧ x < nI nm) ∧ 1 ≤ y ∧ y ≤ 9 ∧ v < 2 ^ nm ∧ bt v (ix x) = 0) ∧ r = (ga / nI (ix y + cntB v 10)) ∧ u = upd (fil (shareS fPU v (ga / nI (ix y + cntB v 10))) fPU nm) (ix x) (fil (shareS fPU v (ga / nI (ix y + cntB v 10))) fPU nm (ix x) + (ga - (ga / nI (ix y + cntB v 10)) * nI (cntB v 10)))) ∨ (¬ (0 ≤ ga ∧ ga ≤ 9999 ∧ (0 ≤ x ∧ x < nI nm) ∧ 1 ≤ y ∧ y ≤ 9 ∧ v < 2 ^ nm ∧ bt v (ix x) = 0) ∧ r = -1 ∧ u = fPU)) (fun (u : (Nat → Int32)) => [mo aM mA (nI nt) 0 td (nI nm) (nI np) isd ln rf rp sz nx kd wh pl rd rn ic mcm mcp mcr, ar cI (mA 5) 10 u]) 0 0 := by
  refine MI.of (cc := cX8_boat) (maxL := 8) (by decide) rfl (Nat.le_of_ble_eq_true rfl) ?_
  intro p e s m below meth c A Q hx hb hml hown hts hN hK hA ret hP hD hS ls hl
  have hown : s.vm.findClass RX8 = some m.cls := hown
  have inX8 : ∀ w ∈ wsX80, w ∈ wsX8_boat := by decide +kernel
  have fl13 := hts (.fieldLink RX8 13 "AdvanceBookModel" "purse" "[I") (by decide +kernel)
  have fl87 := hts (.fieldLink RX8 87 "AdvanceBookModel" "thrown" "I") (by decide +kernel)
  have fl94 := hts (.fieldLink RX8 94 "AdvanceBookModel" "men" "I") (by decide +kernel)
  have hP : va_P D vwCl [mo aM mA (nI nt) th td (nI nm) (nI np) isd ln rf rp sz nx kd wh pl rd rn ic mcm mcp mcr, ar cI (mA 5) 10 fPU] s.heap := hP
  have hD : va_D A [mo aM mA (nI nt) th td (nI nm) (nI np) isd ln rf rp sz nx kd wh pl rd rn ic mcm mcp mcr, ar cI (mA 5) 10 fPU] := hD
  have hl : lv_has ls 8 [(0, .ref aM), (1, .int ga), (2, .int x), (3, .int y), (4, .int (nI v))] := hl
  refine lv_aload_n hx hb dX8_boat_0 rfl (lv_at hl 0 rfl) ?_
  refine lv_iconst (v := 0) hx hb dX8_boat_1 (by decide) ?_
  refine va_put (D := D) (ci := 8) (v := .int 0) (ty := .int) (C := RX8) (T := TX8) (N := 44) hx hb hts inX8 tyX8 tyX8_ok nmX8 hown hK hP hD hS 0 rfl rfl 2 (by decide) fl87 (fun _ h9 => h9) rfl (by decide +kernel) (rfl) (rfl) (Nat.le_of_ble_eq_true rfl) dX8_boat_2 (fun H locs hP hD hS => ?_)
  have hP : va_P D vwCl [mo aM mA (nI nt) 0 td (nI nm) (nI np) isd ln rf rp sz nx kd wh pl rd rn ic mcm mcp mcr, ar cI (mA 5) 10 fPU] H := hP
  have hD : va_D A [mo aM mA (nI nt) 0 td (nI nm) (nI np) isd ln rf rp sz nx kd wh pl rd rn ic mcm mcp mcr, ar cI (mA 5) 10 fPU] := hD
  refine lv_iload_n hx hb dX8_boat_5 rfl (lv_at hl 1 rfl) ?_
  refine lv_if_lt (tgt := 61) hx hb dX8_boat_6 (by decide) (fun c_6 => ?_) (fun c_6 => ?_)
  · skip
    refine lv_iconst (v := (-1)) hx hb dX8_boat_61 (by decide) ?_
    exact ret (-1) fPU _ _ _ _ dX8_boat_62 (by first | exact Or.inr ⟨fun z => man_not hq_18 c_21 z.2.2.1, rfl, rfl⟩ | exact Or.inr ⟨by grind, rfl, rfl⟩ | exact Or.inr ⟨fun z => absurd ((nI_neg hv).mp c_37) (fun h => h (Nat.lt_of_lt_of_le z.2.2.2.2.2.1 (Nat.le_trans (Nat.pow_le_pow_right (by decide) hnm) (by decide)))), rfl, rfl⟩ | exact Or.inr ⟨fun z => crew_no hnm hv31 c_48 z.2.2.2.2.2.1, rfl, rfl⟩ | exact Or.inr ⟨fun z => (by rw [ecp] at z; rw [z.2.2.2.2.2.2] at c_58; exact absurd c_58 (by decide)), rfl, rfl⟩) (hP) (hD) hS
  · skip
    refine lv_iload_n hx hb dX8_boat_9 rfl (lv_at hl 1 rfl) ?_
    refine lv_sipush (v := 9999) hx hb dX8_boat_10 (by decide) ?_
    refine lv_icmp_gt (tgt := 61) hx hb dX8_boat_13 (by decide) (fun c_13 => ?_) (fun c_13 => ?_)
    · skip
      refine lv_iconst (v := (-1)) hx hb dX8_boat_61 (by decide) ?_
      exact ret (-1) fPU _ _ _ _ dX8_boat_62 (by first | exact Or.inr ⟨fun z => man_not hq_18 c_21 z.2.2.1, rfl, rfl⟩ | exact Or.inr ⟨by grind, rfl, rfl⟩ | exact Or.inr ⟨fun z => absurd ((nI_neg hv).mp c_37) (fun h => h (Nat.lt_of_lt_of_le z.2.2.2.2.2.1 (Nat.le_trans (Nat.pow_le_pow_right (by decide) hnm) (by decide)))), rfl, rfl⟩ | exact Or.inr ⟨fun z => crew_no hnm hv31 c_48 z.2.2.2.2.2.1, rfl, rfl⟩ | exact Or.inr ⟨fun z => (by rw [ecp] at z; rw [z.2.2.2.2.2.2] at c_58; exact absurd c_58 (by decide)), rfl, rfl⟩) (hP) (hD) hS
    · skip
      refine lv_aload_n hx hb dX8_boat_16 rfl (lv_at hl 0 rfl) ?_
      refine lv_iload_n hx hb dX8_boat_17 rfl (lv_at hl 2 rfl) ?_
      refine m_cVi (As := [.int x]) (rest := []) (wr := [ar cI (mA 5) 10 fPU]) ⟨hx, hb, hml, hown, hts⟩ (c_X8_isMan l D cI cZ aM mA nt 0 td nm np isd ln rf rp sz nx kd wh pl rd rn ic mcm mcp mcr x ) (cwV 1 hts gX8_boat_X8_isMan rfl rfl rfl (by decide +kernel) ⟨Nat.le_of_ble_eq_true rfl, Nat.le_of_ble_eq_true rfl⟩) hN hK hP hD hS hA [0] [1] rfl rfl (by decide) (by decide) (by decide) 0 (ci := 8) rfl rfl rfl rfl hl.1 rfl (Nat.le_of_ble_eq_true rfl) dX8_boat_18 ⟨Nat.le_of_ble_eq_true rfl, Nat.le_of_ble_eq_true rfl⟩ (fun r_18 u_18 H locs hq_18 hP hD hS => ?_)
      have hq_18 : r_18 = if 0 ≤ x ∧ x < nI nm then 1 else 0 := hq_18
      have hP : va_P D vwCl [ar cI (mA 5) 10 fPU, mo aM mA (nI nt) 0 td (nI nm) (nI np) isd ln rf rp sz nx kd wh pl rd rn ic mcm mcp mcr] H := hP
      have hD : va_D A [ar cI (mA 5) 10 fPU, mo aM mA (nI nt) 0 td (nI nm) (nI np) isd ln rf rp sz nx kd wh pl rd rn ic mcm mcp mcr] := hD
      refine lv_if_eq (tgt := 61) hx hb dX8_boat_21 (by decide) (fun c_21 => ?_) (fun c_21 => ?_)
      · skip
        refine lv_iconst (v := (-1)) hx hb dX8_boat_61 (by decide) ?_
        exact ret (-1) fPU _ _ _ _ dX8_boat_62 (by first | exact Or.inr ⟨fun z => man_not hq_18 c_21 z.2.2.1, rfl, rfl⟩ | exact Or.inr ⟨by grind, rfl, rfl⟩ | exact Or.inr ⟨fun z => absurd ((nI_neg hv).mp c_37) (fun h => h (Nat.lt_of_lt_of_le z.2.2.2.2.2.1 (Nat.le_trans (Nat.pow_le_pow_right (by decide) hnm) (by decide)))), rfl, rfl⟩ | exact Or.inr ⟨fun z => crew_no hnm hv31 c_48 z.2.2.2.2.2.1, rfl, rfl⟩ | exact Or.inr ⟨fun z => (by rw [ecp] at z; rw [z.2.2.2.2.2.2] at c_58; exact absurd c_58 (by decide)), rfl, rfl⟩) (hP.sub [1, 0] rfl) (hD.sub [1, 0] (by decide) rfl) hS
      · skip
        have mx := man_in hq_18 c_21
        obtain ⟨cp, hcp, rfl⟩ := man_of hnm hq_18 c_21
        have ecp : ix (nI cp) = cp := nI_clamp (by omega)
        refine lv_iload_n hx hb dX8_boat_24 rfl (lv_at hl 3 rfl) ?_
        refine lv_iconst (v := 1) hx hb dX8_boat_25 (by decide) ?_
        refine lv_icmp_lt (tgt := 61) hx hb dX8_boat_26 (by decide) (fun c_26 => ?_) (fun c_26 => ?_)
        · skip
          refine lv_iconst (v := (-1)) hx hb dX8_boat_61 (by decide) ?_
          exact ret (-1) fPU _ _ _ _ dX8_boat_62 (by first | exact Or.inr ⟨fun z => man_not hq_18 c_21 z.2.2.1, rfl, rfl⟩ | exact Or.inr ⟨by grind, rfl, rfl⟩ | exact Or.inr ⟨fun z => absurd ((nI_neg hv).mp c_37) (fun h => h (Nat.lt_of_lt_of_le z.2.2.2.2.2.1 (Nat.le_trans (Nat.pow_le_pow_right (by decide) hnm) (by decide)))), rfl, rfl⟩ | exact Or.inr ⟨fun z => crew_no hnm hv31 c_48 z.2.2.2.2.2.1, rfl, rfl⟩ | exact Or.inr ⟨fun z => (by rw [ecp] at z; rw [z.2.2.2.2.2.2] at c_58; exact absurd c_58 (by decide)), rfl, rfl⟩) (hP.sub [1, 0] rfl) (hD.sub [1, 0] (by decide) rfl) hS
        · skip
          refine lv_iload_n hx hb dX8_boat_29 rfl (lv_at hl 3 rfl) ?_
          refine lv_bipush (v := 9) hx hb dX8_boat_30 (by decide) ?_
          refine lv_icmp_gt (tgt := 61) hx hb dX8_boat_32 (by decide) (fun c_32 => ?_) (fun c_32 => ?_)
          · skip
            refine lv_iconst (v := (-1)) hx hb dX8_boat_61 (by decide) ?_
            exact ret (-1) fPU _ _ _ _ dX8_boat_62 (by first | exact Or.inr ⟨fun z => man_not hq_18 c_21 z.2.2.1, rfl, rfl⟩ | exact Or.inr ⟨by grind, rfl, rfl⟩ | exact Or.inr ⟨fun z => absurd ((nI_neg hv).mp c_37) (fun h => h (Nat.lt_of_lt_of_le z.2.2.2.2.2.1 (Nat.le_trans (Nat.pow_le_pow_right (by decide) hnm) (by decide)))), rfl, rfl⟩ | exact Or.inr ⟨fun z => crew_no hnm hv31 c_48 z.2.2.2.2.2.1, rfl, rfl⟩ | exact Or.inr ⟨fun z => (by rw [ecp] at z; rw [z.2.2.2.2.2.2] at c_58; exact absurd c_58 (by decide)), rfl, rfl⟩) (hP.sub [1, 0] rfl) (hD.sub [1, 0] (by decide) rfl) hS
          · skip
            refine lv_iload hx hb dX8_boat_35 (lv_at hl 4 rfl) ?_
            refine lv_if_lt (tgt := 61) hx hb dX8_boat_37 (by decide) (fun c_37 => ?_) (fun c_37 => ?_)
            · skip
              refine lv_iconst (v := (-1)) hx hb dX8_boat_61 (by decide) ?_
              exact ret (-1) fPU _ _ _ _ dX8_boat_62 (by first | exact Or.inr ⟨fun z => man_not hq_18 c_21 z.2.2.1, rfl, rfl⟩ | exact Or.inr ⟨by grind, rfl, rfl⟩ | exact Or.inr ⟨fun z => absurd ((nI_neg hv).mp c_37) (fun h => h (Nat.lt_of_lt_of_le z.2.2.2.2.2.1 (Nat.le_trans (Nat.pow_le_pow_right (by decide) hnm) (by decide)))), rfl, rfl⟩ | exact Or.inr ⟨fun z => crew_no hnm hv31 c_48 z.2.2.2.2.2.1, rfl, rfl⟩ | exact Or.inr ⟨fun z => (by rw [ecp] at z; rw [z.2.2.2.2.2.2] at c_58; exact absurd c_58 (by decide)), rfl, rfl⟩) (hP.sub [1, 0] rfl) (hD.sub [1, 0] (by decide) rfl) hS
            · skip
              have hv31 : v < 2 ^ 31 := (by by_cases q : v < 2 ^ 31; exact q; exact absurd ((nI_neg hv).mpr q) c_37)
              refine lv_iload hx hb dX8_boat_40 (lv_at hl 4 rfl) ?_
              refine lv_iconst (v := 1) hx hb dX8_boat_42 (by decide) ?_
              refine lv_aload_n hx hb dX8_boat_43 rfl (lv_at hl 0 rfl) ?_
              refine va_get (D := D) (ci := 8) (v := .int (nI nm)) (C := RX8) (T := TX8) (N := 44) hx hb hts inX8 hown hK hP 1 rfl rfl 4 (by decide) fl94 (fun _ h9 => h9) rfl dX8_boat_44 ?_
              refine lv_ishl hx hb dX8_boat_47 ?_
              rw [pow_s nm hnm]
              refine lv_icmp_ge (tgt := 61) hx hb dX8_boat_48 (by decide) (fun c_48 => ?_) (fun c_48 => ?_)
              · skip
                refine lv_iconst (v := (-1)) hx hb dX8_boat_61 (by decide) ?_
                exact ret (-1) fPU _ _ _ _ dX8_boat_62 (by first | exact Or.inr ⟨fun z => man_not hq_18 c_21 z.2.2.1, rfl, rfl⟩ | exact Or.inr ⟨by grind, rfl, rfl⟩ | exact Or.inr ⟨fun z => absurd ((nI_neg hv).mp c_37) (fun h => h (Nat.lt_of_lt_of_le z.2.2.2.2.2.1 (Nat.le_trans (Nat.pow_le_pow_right (by decide) hnm) (by decide)))), rfl, rfl⟩ | exact Or.inr ⟨fun z => crew_no hnm hv31 c_48 z.2.2.2.2.2.1, rfl, rfl⟩ | exact Or.inr ⟨fun z => (by rw [ecp] at z; rw [z.2.2.2.2.2.2] at c_58; exact absurd c_58 (by decide)), rfl, rfl⟩) (hP.sub [1, 0] rfl) (hD.sub [1, 0] (by decide) rfl) hS
              · skip
                refine lv_iload hx hb dX8_boat_51 (lv_at hl 4 rfl) ?_
                refine lv_iload_n hx hb dX8_boat_53 rfl (lv_at hl 2 rfl) ?_
                refine lv_ishr hx hb dX8_boat_54 ?_
                refine lv_iconst (v := 1) hx hb dX8_boat_55 (by decide) ?_
                refine lv_iand hx hb dX8_boat_56 ?_
                rw [bit_s (v := v) (k := cp) hv31 (by omega)]
                refine lv_iconst (v := 1) hx hb dX8_boat_57 (by decide) ?_
                refine lv_icmp_ne (tgt := 63) hx hb dX8_boat_58 (by decide) (fun c_58 => ?_) (fun c_58 => ?_)
                · skip
                  have hp2 : 2 ^ nm ≤ 2 ^ 10 := Nat.pow_le_pow_right (by decide) hnm
                  have hvn : v < 2 ^ nm := (by by_cases q : v < 2 ^ nm; exact q; exact absurd (nI_le (a := 2 ^ nm) (b := v) (by omega) (by omega)) c_48)
                  have hbt := bt_le v cp
                  have hb0 : bt v cp = 0 := (by by_cases q : bt v cp = 1; rw [q] at c_58; exact absurd rfl c_58; omega)
                  obtain ⟨pt, hp1, hp3, rfl⟩ := rng_of (x := y) (a := 1) (b := 9) (by decide) c_26 (show y ≤ nI 9 from (show y ≤ 9 by grind)) (by decide)
                  have ept : ix (nI pt) = pt := nI_clamp (by omega)
                  refine lv_iload_n hx hb dX8_boat_63 rfl (lv_at hl 3 rfl) ?_
                  refine lv_istore (lv' := [(5, .int (nI pt)), (0, .ref aM), (1, .int ga), (2, .int (nI cp)), (3, .int (nI pt)), (4, .int (nI v))]) hx hb dX8_boat_64 hl (by decide) rfl (fun ls hl => ?_)
                  refine lv_iconst (v := 0) hx hb dX8_boat_66 (by decide) ?_
                  refine lv_istore (lv' := [(6, .int 0), (5, .int (nI pt)), (0, .ref aM), (1, .int ga), (2, .int (nI cp)), (3, .int (nI pt)), (4, .int (nI v))]) hx hb dX8_boat_67 hl (by decide) rfl (fun ls hl => ?_)
                  have L_69 : ∀ (n_69 : Nat) (j : Nat) (al : Nat), (nm - j < n_69) → (j ≤ nm) → (al = pt + cntB v j) → ∀ (H : Heap) (locs : List Loc), va_P D vwCl [ar cI (mA 5) 10 fPU, mo aM mA (nI nt) 0 td (nI nm) (nI np) isd ln rf rp sz nx kd wh pl rd rn ic mcm mcp mcr] H → va_D A [ar cI (mA 5) 10 fPU, mo aM mA (nI nt) 0 td (nI nm) (nI np) isd ln rf rp sz nx kd wh pl rd rn ic mcm mcp mcr] → va_S A s.heap H locs → ∀ ls : Array Slot, lv_has ls 8 [(0, .ref aM), (1, .int ga), (2, .int (nI cp)), (3, .int (nI pt)), (4, .int (nI v)), (5, .int (nI al)), (6, .int (nI j))] → W p l e r_c_X8_boat s m (([.ref aM, .int ga, .int (nI cp), .int (nI pt), .int (nI v)] : List Value).toArray) below meth c H locs 0 0 Q (F0 m 69 ls []) := by
                    intro n_69
                    induction n_69 with
                    | zero => intro j al hfu; exact absurd hfu (Nat.not_lt_zero _)
                    | succ n_69 ih_69 =>
                      intro j al hfu_69 hj ha H locs hP hD hS ls hl
                      refine lv_iload hx hb dX8_boat_69 (lv_at hl 6 rfl) ?_
                      refine lv_aload_n hx hb dX8_boat_71 rfl (lv_at hl 0 rfl) ?_
                      refine va_get (D := D) (ci := 8) (v := .int (nI nm)) (C := RX8) (T := TX8) (N := 44) hx hb hts inX8 hown hK hP 1 rfl rfl 4 (by decide) fl94 (fun _ h9 => h9) rfl dX8_boat_72 ?_
                      refine lv_icmp_ge (tgt := 96) hx hb dX8_boat_75 (by decide) (fun c_75 => ?_) (fun c_75 => ?_)
                      · skip
                        have k_75 : nm ≤ j := (nI_leI (a := nm) (b := j) (by omega) (by omega)).mp c_75
                        have ej : j = nm := (by omega)
                        rw [ej] at ha
                        subst ha
                        have hc10 := cntB_le v nm
                        refine lv_iload_n hx hb dX8_boat_96 rfl (lv_at hl 1 rfl) ?_
                        refine lv_iload hx hb dX8_boat_97 (lv_at hl 5 rfl) ?_
                        refine lv_idiv hx hb dX8_boat_99 (nI_ne0 (by omega) (by omega)) ?_
                        refine lv_istore (lv' := [(6, .int (ga / (nI (pt + cntB v nm)))), (0, .ref aM), (1, .int ga), (2, .int (nI cp)), (3, .int (nI pt)), (4, .int (nI v)), (5, .int (nI (pt + cntB v nm)))]) hx hb dX8_boat_100 hl (by decide) rfl (fun ls hl => ?_)
                        refine lv_iconst (v := 0) hx hb dX8_boat_102 (by decide) ?_
                        refine lv_istore (lv' := [(7, .int 0), (6, .int (ga / (nI (pt + cntB v nm)))), (0, .ref aM), (1, .int ga), (2, .int (nI cp)), (3, .int (nI pt)), (4, .int (nI v)), (5, .int (nI (pt + cntB v nm)))]) hx hb dX8_boat_103 hl (by decide) rfl (fun ls hl => ?_)
                        have L_105 : ∀ (n_105 : Nat) (j2 : Nat) (h : Nat → Int32), (nm - j2 < n_105) → (j2 ≤ nm) → (h = fil (shareS fPU v (ga / nI (pt + cntB v nm))) fPU j2) → ∀ (H : Heap) (locs : List Loc), va_P D vwCl [ar cI (mA 5) 10 h, mo aM mA (nI nt) 0 td (nI nm) (nI np) isd ln rf rp sz nx kd wh pl rd rn ic mcm mcp mcr] H → va_D A [ar cI (mA 5) 10 h, mo aM mA (nI nt) 0 td (nI nm) (nI np) isd ln rf rp sz nx kd wh pl rd rn ic mcm mcp mcr] → va_S A s.heap H locs → ∀ ls : Array Slot, lv_has ls 8 [(0, .ref aM), (1, .int ga), (2, .int (nI cp)), (3, .int (nI pt)), (4, .int (nI v)), (5, .int (nI (pt + cntB v nm))), (6, .int (ga / (nI (pt + cntB v nm)))), (7, .int (nI j2))] → W p l e r_c_X8_boat s m (([.ref aM, .int ga, .int (nI cp), .int (nI pt), .int (nI v)] : List Value).toArray) below meth c H locs 0 0 Q (F0 m 105 ls []) := by
                          intro n_105
                          induction n_105 with
                          | zero => intro j2 h hfu; exact absurd hfu (Nat.not_lt_zero _)
                          | succ n_105 ih_105 =>
                            intro j2 h hfu_105 hj2 hh H locs hP hD hS ls hl
                            have e1 := fil_at hh
                            refine lv_iload hx hb dX8_boat_105 (lv_at hl 7 rfl) ?_
                            refine lv_aload_n hx hb dX8_boat_107 rfl (lv_at hl 0 rfl) ?_
                            refine va_get (D := D) (ci := 8) (v := .int (nI nm)) (C := RX8) (T := TX8) (N := 44) hx hb hts inX8 hown hK hP 1 rfl rfl 4 (by decide) fl94 (fun _ h9 => h9) rfl dX8_boat_108 ?_
                            refine lv_icmp_ge (tgt := 140) hx hb dX8_boat_111 (by decide) (fun c_111 => ?_) (fun c_111 => ?_)
                            · skip
                              have k_111 : nm ≤ j2 := (nI_leI (a := nm) (b := j2) (by omega) (by omega)).mp c_111
                              refine lv_aload_n hx hb dX8_boat_140 rfl (lv_at hl 0 rfl) ?_
                              refine va_get (D := D) (ci := 8) (v := .ref (mA 5)) (C := RX8) (T := TX8) (N := 44) hx hb hts inX8 hown hK hP 1 rfl rfl 5 (by decide) fl13 (fun _ h9 => h9) rfl dX8_boat_141 ?_
                              refine lv_iload_n hx hb dX8_boat_144 rfl (lv_at hl 2 rfl) ?_
                              refine lv_dup2_11 hx hb dX8_boat_145 rfl rfl ?_
                              refine m_iald (k := cp) hx hb hK hP 0 0 rfl rfl (by omega) (by decide) dX8_boat_146 ?_
                              refine lv_iload_n hx hb dX8_boat_147 rfl (lv_at hl 1 rfl) ?_
                              refine lv_iload hx hb dX8_boat_148 (lv_at hl 6 rfl) ?_
                              refine lv_iload hx hb dX8_boat_150 (lv_at hl 5 rfl) ?_
                              refine lv_iload_n hx hb dX8_boat_152 rfl (lv_at hl 3 rfl) ?_
                              refine lv_isub hx hb dX8_boat_153 ?_
                              rw [show nI (pt + cntB v nm) - nI pt = nI (cntB v nm) from (by rw [pk_sub (by omega)]; congr 1; omega)]
                              refine lv_imul hx hb dX8_boat_154 ?_
                              refine lv_isub hx hb dX8_boat_155 ?_
                              refine lv_iadd hx hb dX8_boat_156 ?_
                              refine m_iast (k := cp) (x := ((h cp) + (ga - ((ga / (nI (pt + cntB v nm))) * (nI (cntB v nm)))))) hx hb hK hP hD hS 0 0 rfl rfl (by omega) (by decide) dX8_boat_157 (fun H locs hP hD hS => ?_)
                              have hP : va_P D vwCl [ar cI (mA 5) 10 (upd h cp ((h cp) + (ga - ((ga / (nI (pt + cntB v nm))) * (nI (cntB v nm)))))), mo aM mA (nI nt) 0 td (nI nm) (nI np) isd ln rf rp sz nx kd wh pl rd rn ic mcm mcp mcr] H := hP
                              have hD : va_D A [ar cI (mA 5) 10 (upd h cp ((h cp) + (ga - ((ga / (nI (pt + cntB v nm))) * (nI (cntB v nm)))))), mo aM mA (nI nt) 0 td (nI nm) (nI np) isd ln rf rp sz nx kd wh pl rd rn ic mcm mcp mcr] := hD
                              refine lv_iload hx hb dX8_boat_158 (lv_at hl 6 rfl) ?_
                              exact ret (ga / (nI (pt + cntB v nm))) (upd h cp ((h cp) + (ga - ((ga / (nI (pt + cntB v nm))) * (nI (cntB v nm)))))) _ _ _ _ dX8_boat_160 (by have e : j2 = nm := (by omega); have e9 := cntB_full hvn hnm; rw [e] at hh; rw [ecp, ept, hh, e9]; exact Or.inl ⟨⟨by grind, by grind, mx, by grind, by grind, hvn, hb0⟩, rfl, rfl⟩) (hP.sub [1, 0] rfl) (hD.sub [1, 0] (by decide) rfl) hS
                            · skip
                              have k_111 : ¬ nm ≤ j2 := fun h9 => c_111 ((nI_leI (a := nm) (b := j2) (by omega) (by omega)).mpr h9)
                              refine lv_aload_n hx hb dX8_boat_114 rfl (lv_at hl 0 rfl) ?_
                              refine va_get (D := D) (ci := 8) (v := .ref (mA 5)) (C := RX8) (T := TX8) (N := 44) hx hb hts inX8 hown hK hP 1 rfl rfl 5 (by decide) fl13 (fun _ h9 => h9) rfl dX8_boat_115 ?_
                              refine lv_iload hx hb dX8_boat_118 (lv_at hl 7 rfl) ?_
                              refine lv_dup2_11 hx hb dX8_boat_120 rfl rfl ?_
                              refine m_iald (k := j2) hx hb hK hP 0 0 rfl rfl (by omega) (by decide) dX8_boat_121 ?_
                              refine lv_iload hx hb dX8_boat_122 (lv_at hl 4 rfl) ?_
                              refine lv_iload hx hb dX8_boat_124 (lv_at hl 7 rfl) ?_
                              refine lv_ishr hx hb dX8_boat_126 ?_
                              refine lv_iconst (v := 1) hx hb dX8_boat_127 (by decide) ?_
                              refine lv_iand hx hb dX8_boat_128 ?_
                              rw [bit_s (v := v) (k := j2) hv31 (by omega)]
                              refine lv_iload hx hb dX8_boat_129 (lv_at hl 6 rfl) ?_
                              refine lv_imul hx hb dX8_boat_131 ?_
                              refine lv_iadd hx hb dX8_boat_132 ?_
                              refine m_iast (k := j2) (x := ((h j2) + ((nI (bt v j2)) * (ga / (nI (pt + cntB v nm)))))) hx hb hK hP hD hS 0 0 rfl rfl (by omega) (by decide) dX8_boat_133 (fun H locs hP hD hS => ?_)
                              have hP : va_P D vwCl [ar cI (mA 5) 10 (upd h j2 ((h j2) + ((nI (bt v j2)) * (ga / (nI (pt + cntB v nm)))))), mo aM mA (nI nt) 0 td (nI nm) (nI np) isd ln rf rp sz nx kd wh pl rd rn ic mcm mcp mcr] H := hP
                              have hD : va_D A [ar cI (mA 5) 10 (upd h j2 ((h j2) + ((nI (bt v j2)) * (ga / (nI (pt + cntB v nm)))))), mo aM mA (nI nt) 0 td (nI nm) (nI np) isd ln rf rp sz nx kd wh pl rd rn ic mcm mcp mcr] := hD
                              refine lv_iinc (v := (nI (j2 + 1))) (lv' := [(7, .int (nI (j2 + 1))), (0, .ref aM), (1, .int ga), (2, .int (nI cp)), (3, .int (nI pt)), (4, .int (nI v)), (5, .int (nI (pt + cntB v nm))), (6, .int (ga / (nI (pt + cntB v nm))))]) hx hb dX8_boat_134 hl (k := 7) rfl (nI_inc j2 1 (by decide)) (by decide) rfl (fun ls hl => ?_)
                              refine lv_goto (tgt := 105) hx hb dX8_boat_137 (by decide) ?_
                              exact ih_105 (j2 + 1) (upd h j2 ((h j2) + ((nI (bt v j2)) * (ga / (nI (pt + cntB v nm)))))) (by omega) (by omega) (fil_step hh (by rw [e1, bt_mul]; rfl)) _ _ (hP) (hD) hS ls (lv_sub hl [1, 2, 3, 4, 5, 6, 7, 0] rfl)
                        exact L_105 ((nm - 0) + 1) 0 fPU (Nat.lt_succ_self _) (by omega) (fil_0.symm) _ _ (hP) (hD) hS ls (lv_sub hl [2, 3, 4, 5, 6, 7, 1, 0] rfl)
                      · skip
                        have k_75 : ¬ nm ≤ j := fun h9 => c_75 ((nI_leI (a := nm) (b := j) (by omega) (by omega)).mpr h9)
                        refine lv_iload hx hb dX8_boat_78 (lv_at hl 5 rfl) ?_
                        refine lv_iload hx hb dX8_boat_80 (lv_at hl 4 rfl) ?_
                        refine lv_iload hx hb dX8_boat_82 (lv_at hl 6 rfl) ?_
                        refine lv_ishr hx hb dX8_boat_84 ?_
                        refine lv_iconst (v := 1) hx hb dX8_boat_85 (by decide) ?_
                        refine lv_iand hx hb dX8_boat_86 ?_
                        rw [bit_s (v := v) (k := j) hv31 (by omega)]
                        refine m_iaddN (a := al) (b := (bt v j)) hx hb dX8_boat_87 ?_
                        refine lv_istore (lv' := [(5, .int (nI (al + (bt v j)))), (0, .ref aM), (1, .int ga), (2, .int (nI cp)), (3, .int (nI pt)), (4, .int (nI v)), (6, .int (nI j))]) hx hb dX8_boat_88 hl (by decide) rfl (fun ls hl => ?_)
                        refine lv_iinc (v := (nI (j + 1))) (lv' := [(6, .int (nI (j + 1))), (5, .int (nI (al + (bt v j)))), (0, .ref aM), (1, .int ga), (2, .int (nI cp)), (3, .int (nI pt)), (4, .int (nI v))]) hx hb dX8_boat_90 hl (k := 6) rfl (nI_inc j 1 (by decide)) (by decide) rfl (fun ls hl => ?_)
                        refine lv_goto (tgt := 69) hx hb dX8_boat_93 (by decide) ?_
                        exact ih_69 (j + 1) (al + (bt v j)) (by omega) (by omega) (by rw [ha]; simp only [cntB]; omega) _ _ (hP) (hD) hS ls (lv_sub hl [2, 3, 4, 5, 6, 1, 0] rfl)
                  exact L_69 ((nm - 0) + 1) 0 pt (Nat.lt_succ_self _) (by omega) (rfl) _ _ (hP) (hD) hS ls (lv_sub hl [2, 3, 4, 5, 6, 1, 0] rfl)
                · skip
                  refine lv_iconst (v := (-1)) hx hb dX8_boat_61 (by decide) ?_
                  exact ret (-1) fPU _ _ _ _ dX8_boat_62 (by first | exact Or.inr ⟨fun z => man_not hq_18 c_21 z.2.2.1, rfl, rfl⟩ | exact Or.inr ⟨by grind, rfl, rfl⟩ | exact Or.inr ⟨fun z => absurd ((nI_neg hv).mp c_37) (fun h => h (Nat.lt_of_lt_of_le z.2.2.2.2.2.1 (Nat.le_trans (Nat.pow_le_pow_right (by decide) hnm) (by decide)))), rfl, rfl⟩ | exact Or.inr ⟨fun z => crew_no hnm hv31 c_48 z.2.2.2.2.2.1, rfl, rfl⟩ | exact Or.inr ⟨fun z => (by rw [ecp] at z; rw [z.2.2.2.2.2.2] at c_58; exact absurd c_58 (by decide)), rfl, rfl⟩) (hP.sub [1, 0] rfl) (hD.sub [1, 0] (by decide) rfl) hS
abbrev r_c_X8_isMeant : Room := { frames := 0, cells := 0, slots := 0, locals := 0 }
set_option maxHeartbeats 4000000 in
set_option maxRecDepth 100000 in
theorem c_X8_isMeant (l : Launch) (D : va_G) (cI cZ : ClassId) (aM : Nat) (mA : Nat → Nat) (nt : Nat) (th : Int32) (td : Int32) (nm : Nat) (np : Nat) (isd : Int32) (ln : Int32) (rf : Int32) (rp : Int32) (sz : Int32) (nx : Int32) (kd : Int32) (wh : Int32) (pl : Int32) (rd : Int32) (rn : Int32) (ic : Int32) (mcm : Int32) (mcp : Int32) (mcr : Int32) (fRU : Nat → Int32) (fDY : Nat → Int32) (q : Nat) (hq : q < 40) : MI l yX8_isMeant wsX8_isMeant r_c_X8_isMeant D cI cZ [.ref aM, .int (nI q)] [mo aM mA (nI nt) th td (nI nm) (nI np) isd ln rf rp sz nx kd wh pl rd rn ic mcm mcp mcr, ar cI (mA 19) 20 fRU, ar cI (mA 15) 40 fDY] (fun (r : Int32) (u : Unit) => r = if fRU 9 < 0 ∨ fDY q < fRU 9 then 1 else 0) (fun (u : Unit) => [mo aM mA (nI nt) th td (nI nm) (nI np) isd ln rf rp sz nx kd wh pl rd rn ic mcm mcp mcr, ar cI (mA 19) 20 fRU, ar cI (mA 15) 40 fDY]) 0 0 := by
  refine MI.ofZ (cc := cX8_isMeant) (maxL := 2) (by decide) rfl (Nat.le_of_ble_eq_true rfl) ?_
  intro p e s m below meth c A Q hx hb hml hown hts hN hK hA ret hP hD hS ls hl
  have hown : s.vm.findClass RX8 = some m.cls := hown
  have inX8 : ∀ w ∈ wsX80, w ∈ wsX8_isMeant := by decide +kernel
  have fl40 := hts (.fieldLink RX8 40 "AdvanceBookModel" "day" "[I") (by decide +kernel)
  have fl47 := hts (.fieldLink RX8 47 "AdvanceBookModel" "rule" "[I") (by decide +kernel)
  have hP : va_P D vwCl [mo aM mA (nI nt) th td (nI nm) (nI np) isd ln rf rp sz nx kd wh pl rd rn ic mcm mcp mcr, ar cI (mA 19) 20 fRU, ar cI (mA 15) 40 fDY] s.heap := hP
  have hD : va_D A [mo aM mA (nI nt) th td (nI nm) (nI np) isd ln rf rp sz nx kd wh pl rd rn ic mcm mcp mcr, ar cI (mA 19) 20 fRU, ar cI (mA 15) 40 fDY] := hD
  have hl : lv_has ls 2 [(0, .ref aM), (1, .int (nI q))] := hl
  refine lv_aload_n hx hb dX8_isMeant_0 rfl (lv_at hl 0 rfl) ?_
  refine va_get (D := D) (ci := 8) (v := .ref (mA 19)) (C := RX8) (T := TX8) (N := 44) hx hb hts inX8 hown hK hP 0 rfl rfl 19 (by decide) fl47 (fun _ h9 => h9) rfl dX8_isMeant_1 ?_
  refine lv_bipush (v := 9) hx hb dX8_isMeant_4 (by decide) ?_
  refine m_iald (k := 9) hx hb hK hP 1 0 rfl rfl (by omega) (by decide) dX8_isMeant_6 ?_
  refine lv_if_lt (tgt := 26) hx hb dX8_isMeant_7 (by decide) (fun c_7 => ?_) (fun c_7 => ?_)
  · skip
    refine lv_iconst (v := 1) hx hb dX8_isMeant_26 (by decide) ?_
    refine lv_goto (tgt := 31) hx hb dX8_isMeant_27 (by decide) ?_
    exact ret 1 () _ _ _ _ dX8_isMeant_31 (Or.inr rfl) (by grind) (hP) (hD) hS
  · skip
    refine lv_aload_n hx hb dX8_isMeant_10 rfl (lv_at hl 0 rfl) ?_
    refine va_get (D := D) (ci := 8) (v := .ref (mA 15)) (C := RX8) (T := TX8) (N := 44) hx hb hts inX8 hown hK hP 0 rfl rfl 15 (by decide) fl40 (fun _ h9 => h9) rfl dX8_isMeant_11 ?_
    refine lv_iload_n hx hb dX8_isMeant_14 rfl (lv_at hl 1 rfl) ?_
    refine m_iald (k := q) hx hb hK hP 2 0 rfl rfl (by omega) (by decide) dX8_isMeant_15 ?_
    refine lv_aload_n hx hb dX8_isMeant_16 rfl (lv_at hl 0 rfl) ?_
    refine va_get (D := D) (ci := 8) (v := .ref (mA 19)) (C := RX8) (T := TX8) (N := 44) hx hb hts inX8 hown hK hP 0 rfl rfl 19 (by decide) fl47 (fun _ h9 => h9) rfl dX8_isMeant_17 ?_
    refine lv_bipush (v := 9) hx hb dX8_isMeant_20 (by decide) ?_
    refine m_iald (k := 9) hx hb hK hP 1 0 rfl rfl (by omega) (by decide) dX8_isMeant_22 ?_
    refine lv_icmp_ge (tgt := 30) hx hb dX8_isMeant_23 (by decide) (fun c_23 => ?_) (fun c_23 => ?_)
    · skip
      refine lv_iconst (v := 0) hx hb dX8_isMeant_30 (by decide) ?_
      exact ret 0 () _ _ _ _ dX8_isMeant_31 (Or.inl rfl) (by grind) (hP) (hD) hS
    · skip
      refine lv_iconst (v := 1) hx hb dX8_isMeant_26 (by decide) ?_
      refine lv_goto (tgt := 31) hx hb dX8_isMeant_27 (by decide) ?_
      exact ret 1 () _ _ _ _ dX8_isMeant_31 (Or.inr rfl) (by grind) (hP) (hD) hS
abbrev r_c_X8_leftBy : Room := { frames := 1, cells := 0, slots := 0, locals := 21 }
set_option maxHeartbeats 4000000 in
set_option maxRecDepth 100000 in
theorem c_X8_leftBy (l : Launch) (D : va_G) (cI cZ : ClassId) (aM : Nat) (mA : Nat → Nat) (nt : Nat) (th : Int32) (td : Int32) (nm : Nat) (np : Nat) (isd : Int32) (ln : Int32) (rf : Int32) (rp : Int32) (sz : Int32) (nx : Int32) (kd : Int32) (wh : Int32) (pl : Int32) (rd : Int32) (rn : Int32) (ic : Int32) (mcm : Int32) (mcp : Int32) (mcr : Int32) (fRU : Nat → Int32) (fDY : Nat → Int32) (fLF : Nat → Int32) (fRK : Nat → Int32) (q : Nat) (hq : q < 40) (hrk : vp_in (fRK q) 4) : MI l yX8_leftBy wsX8_leftBy r_c_X8_leftBy D cI cZ [.ref aM, .int (nI q)] [mo aM mA (nI nt) th td (nI nm) (nI np) isd ln rf rp sz nx kd wh pl rd rn ic mcm mcp mcr, ar cI (mA 19) 20 fRU, ar cI (mA 15) 40 fDY, ar cI (mA 14) 40 fLF, ar cI (mA 13) 40 fRK] (fun (r : Int32) (u : Unit) => r = mLeft fRU (fLF q) (fRK q) (fDY q)) (fun (u : Unit) => [mo aM mA (nI nt) th td (nI nm) (nI np) isd ln rf rp sz nx kd wh pl rd rn ic mcm mcp mcr, ar cI (mA 19) 20 fRU, ar cI (mA 15) 40 fDY, ar cI (mA 14) 40 fLF, ar cI (mA 13) 40 fRK]) 0 0 := by
  refine MI.of (cc := cX8_leftBy) (maxL := 3) (by decide) rfl (Nat.le_of_ble_eq_true rfl) ?_
  intro p e s m below meth c A Q hx hb hml hown hts hN hK hA ret hP hD hS ls hl
  have hown : s.vm.findClass RX8 = some m.cls := hown
  have inX8 : ∀ w ∈ wsX80, w ∈ wsX8_leftBy := by decide +kernel
  have fl34 := hts (.fieldLink RX8 34 "AdvanceBookModel" "rank" "[I") (by decide +kernel)
  have fl37 := hts (.fieldLink RX8 37 "AdvanceBookModel" "left" "[I") (by decide +kernel)
  have fl47 := hts (.fieldLink RX8 47 "AdvanceBookModel" "rule" "[I") (by decide +kernel)
  have hP : va_P D vwCl [mo aM mA (nI nt) th td (nI nm) (nI np) isd ln rf rp sz nx kd wh pl rd rn ic mcm mcp mcr, ar cI (mA 19) 20 fRU, ar cI (mA 15) 40 fDY, ar cI (mA 14) 40 fLF, ar cI (mA 13) 40 fRK] s.heap := hP
  have hD : va_D A [mo aM mA (nI nt) th td (nI nm) (nI np) isd ln rf rp sz nx kd wh pl rd rn ic mcm mcp mcr, ar cI (mA 19) 20 fRU, ar cI (mA 15) 40 fDY, ar cI (mA 14) 40 fLF, ar cI (mA 13) 40 fRK] := hD
  have hl : lv_has ls 3 [(0, .ref aM), (1, .int (nI q))] := hl
  refine lv_aload_n hx hb dX8_leftBy_0 rfl (lv_at hl 0 rfl) ?_
  refine lv_iload_n hx hb dX8_leftBy_1 rfl (lv_at hl 1 rfl) ?_
  refine m_cVi (As := [.int (nI q)]) (rest := []) (wr := [ar cI (mA 14) 40 fLF, ar cI (mA 13) 40 fRK]) ⟨hx, hb, hml, hown, hts⟩ (c_X8_isMeant l D cI cZ aM mA nt th td nm np isd ln rf rp sz nx kd wh pl rd rn ic mcm mcp mcr fRU fDY q (by first | assumption | omega)) (cwV 1 hts gX8_leftBy_X8_isMeant rfl rfl rfl (by decide +kernel) ⟨Nat.le_of_ble_eq_true rfl, Nat.le_of_ble_eq_true rfl⟩) hN hK hP hD hS hA [0, 1, 2] [3, 4] rfl rfl (by decide) (by decide) (by decide) 0 (ci := 8) rfl rfl rfl rfl hl.1 rfl (Nat.le_of_ble_eq_true rfl) dX8_leftBy_2 ⟨Nat.le_of_ble_eq_true rfl, Nat.le_of_ble_eq_true rfl⟩ (fun r_2 u_2 H locs hq_2 hP hD hS => ?_)
  have hq_2 : r_2 = if fRU 9 < 0 ∨ fDY q < fRU 9 then 1 else 0 := hq_2
  have hP : va_P D vwCl [ar cI (mA 14) 40 fLF, ar cI (mA 13) 40 fRK, mo aM mA (nI nt) th td (nI nm) (nI np) isd ln rf rp sz nx kd wh pl rd rn ic mcm mcp mcr, ar cI (mA 19) 20 fRU, ar cI (mA 15) 40 fDY] H := hP
  have hD : va_D A [ar cI (mA 14) 40 fLF, ar cI (mA 13) 40 fRK, mo aM mA (nI nt) th td (nI nm) (nI np) isd ln rf rp sz nx kd wh pl rd rn ic mcm mcp mcr, ar cI (mA 19) 20 fRU, ar cI (mA 15) 40 fDY] := hD
  refine lv_if_eq (tgt := 22) hx hb dX8_leftBy_5 (by decide) (fun c_5 => ?_) (fun c_5 => ?_)
  · skip
    refine lv_aload_n hx hb dX8_leftBy_22 rfl (lv_at hl 0 rfl) ?_
    refine va_get (D := D) (ci := 8) (v := .ref (mA 14)) (C := RX8) (T := TX8) (N := 44) hx hb hts inX8 hown hK hP 2 rfl rfl 14 (by decide) fl37 (fun _ h9 => h9) rfl dX8_leftBy_23 ?_
    refine lv_iload_n hx hb dX8_leftBy_26 rfl (lv_at hl 1 rfl) ?_
    refine m_iald (k := q) hx hb hK hP 0 0 rfl rfl (by omega) (by decide) dX8_leftBy_27 ?_
    exact ret (fLF q) () _ _ _ _ dX8_leftBy_28 (by unfold mLeft; grind) (hP.sub [2, 3, 4, 0, 1] rfl) (hD.sub [2, 3, 4, 0, 1] (by decide) rfl) hS
  · skip
    refine lv_aload_n hx hb dX8_leftBy_8 rfl (lv_at hl 0 rfl) ?_
    refine va_get (D := D) (ci := 8) (v := .ref (mA 19)) (C := RX8) (T := TX8) (N := 44) hx hb hts inX8 hown hK hP 2 rfl rfl 19 (by decide) fl47 (fun _ h9 => h9) rfl dX8_leftBy_9 ?_
    refine lv_aload_n hx hb dX8_leftBy_12 rfl (lv_at hl 0 rfl) ?_
    refine va_get (D := D) (ci := 8) (v := .ref (mA 13)) (C := RX8) (T := TX8) (N := 44) hx hb hts inX8 hown hK hP 2 rfl rfl 13 (by decide) fl34 (fun _ h9 => h9) rfl dX8_leftBy_13 ?_
    refine lv_iload_n hx hb dX8_leftBy_16 rfl (lv_at hl 1 rfl) ?_
    refine m_iald (k := q) hx hb hK hP 1 0 rfl rfl (by omega) (by decide) dX8_leftBy_17 ?_
    refine va_iald hx hb hK hP 3 0 rfl rfl (vp_wide hrk (by decide)) dX8_leftBy_18 ?_
    refine lv_if_ge (tgt := 29) hx hb dX8_leftBy_19 (by decide) (fun c_19 => ?_) (fun c_19 => ?_)
    · skip
      refine lv_aload_n hx hb dX8_leftBy_29 rfl (lv_at hl 0 rfl) ?_
      refine va_get (D := D) (ci := 8) (v := .ref (mA 14)) (C := RX8) (T := TX8) (N := 44) hx hb hts inX8 hown hK hP 2 rfl rfl 14 (by decide) fl37 (fun _ h9 => h9) rfl dX8_leftBy_30 ?_
      refine lv_iload_n hx hb dX8_leftBy_33 rfl (lv_at hl 1 rfl) ?_
      refine m_iald (k := q) hx hb hK hP 0 0 rfl rfl (by omega) (by decide) dX8_leftBy_34 ?_
      refine lv_aload_n hx hb dX8_leftBy_35 rfl (lv_at hl 0 rfl) ?_
      refine va_get (D := D) (ci := 8) (v := .ref (mA 19)) (C := RX8) (T := TX8) (N := 44) hx hb hts inX8 hown hK hP 2 rfl rfl 19 (by decide) fl47 (fun _ h9 => h9) rfl dX8_leftBy_36 ?_
      refine lv_bipush (v := 8) hx hb dX8_leftBy_39 (by decide) ?_
      refine m_iald (k := 8) hx hb hK hP 3 0 rfl rfl (by omega) (by decide) dX8_leftBy_41 ?_
      refine lv_if_ge (tgt := 49) hx hb dX8_leftBy_42 (by decide) (fun c_42 => ?_) (fun c_42 => ?_)
      · skip
        refine lv_aload_n hx hb dX8_leftBy_49 rfl (lv_at hl 0 rfl) ?_
        refine va_get (D := D) (ci := 8) (v := .ref (mA 19)) (C := RX8) (T := TX8) (N := 44) hx hb hts inX8 hown hK hP 2 rfl rfl 19 (by decide) fl47 (fun _ h9 => h9) rfl dX8_leftBy_50 ?_
        refine lv_bipush (v := 8) hx hb dX8_leftBy_53 (by decide) ?_
        refine m_iald (k := 8) hx hb hK hP 3 0 rfl rfl (by omega) (by decide) dX8_leftBy_55 ?_
        refine lv_isub hx hb dX8_leftBy_56 ?_
        refine lv_istore_n (lv' := [(2, .int ((fLF q) - (fRU 8))), (0, .ref aM), (1, .int (nI q))]) hx hb dX8_leftBy_57 rfl hl (by decide) rfl (fun ls hl => ?_)
        refine lv_iload_n hx hb dX8_leftBy_58 rfl (lv_at hl 0 rfl) ?_
        refine lv_if_gt (tgt := 71) hx hb dX8_leftBy_59 (by decide) (fun c_59 => ?_) (fun c_59 => ?_)
        · skip
          refine lv_aload_n hx hb dX8_leftBy_71 rfl (lv_at hl 1 rfl) ?_
          refine va_get (D := D) (ci := 8) (v := .ref (mA 14)) (C := RX8) (T := TX8) (N := 44) hx hb hts inX8 hown hK hP 2 rfl rfl 14 (by decide) fl37 (fun _ h9 => h9) rfl dX8_leftBy_72 ?_
          refine lv_iload_n hx hb dX8_leftBy_75 rfl (lv_at hl 2 rfl) ?_
          refine m_iald (k := q) hx hb hK hP 0 0 rfl rfl (by omega) (by decide) dX8_leftBy_76 ?_
          refine lv_iload_n hx hb dX8_leftBy_77 rfl (lv_at hl 0 rfl) ?_
          refine lv_aload_n hx hb dX8_leftBy_78 rfl (lv_at hl 1 rfl) ?_
          refine va_get (D := D) (ci := 8) (v := .ref (mA 19)) (C := RX8) (T := TX8) (N := 44) hx hb hts inX8 hown hK hP 2 rfl rfl 19 (by decide) fl47 (fun _ h9 => h9) rfl dX8_leftBy_79 ?_
          refine lv_aload_n hx hb dX8_leftBy_82 rfl (lv_at hl 1 rfl) ?_
          refine va_get (D := D) (ci := 8) (v := .ref (mA 13)) (C := RX8) (T := TX8) (N := 44) hx hb hts inX8 hown hK hP 2 rfl rfl 13 (by decide) fl34 (fun _ h9 => h9) rfl dX8_leftBy_83 ?_
          refine lv_iload_n hx hb dX8_leftBy_86 rfl (lv_at hl 2 rfl) ?_
          refine m_iald (k := q) hx hb hK hP 1 0 rfl rfl (by omega) (by decide) dX8_leftBy_87 ?_
          refine va_iald hx hb hK hP 3 0 rfl rfl (vp_wide hrk (by decide)) dX8_leftBy_88 ?_
          refine lv_imul hx hb dX8_leftBy_89 ?_
          refine lv_bipush (v := 100) hx hb dX8_leftBy_90 (by decide) ?_
          refine lv_idiv hx hb dX8_leftBy_92 (by decide) ?_
          refine lv_isub hx hb dX8_leftBy_93 ?_
          exact ret ((fLF q) - ((((fLF q) - (fRU 8)) * (fRU (ix (fRK q)))) / 100)) () _ _ _ _ dX8_leftBy_94 (by unfold mLeft; grind) (hP.sub [2, 3, 4, 0, 1] rfl) (hD.sub [2, 3, 4, 0, 1] (by decide) rfl) hS
        · skip
          refine lv_aload_n hx hb dX8_leftBy_62 rfl (lv_at hl 1 rfl) ?_
          refine va_get (D := D) (ci := 8) (v := .ref (mA 14)) (C := RX8) (T := TX8) (N := 44) hx hb hts inX8 hown hK hP 2 rfl rfl 14 (by decide) fl37 (fun _ h9 => h9) rfl dX8_leftBy_63 ?_
          refine lv_iload_n hx hb dX8_leftBy_66 rfl (lv_at hl 2 rfl) ?_
          refine m_iald (k := q) hx hb hK hP 0 0 rfl rfl (by omega) (by decide) dX8_leftBy_67 ?_
          refine lv_goto (tgt := 94) hx hb dX8_leftBy_68 (by decide) ?_
          exact ret (fLF q) () _ _ _ _ dX8_leftBy_94 (by unfold mLeft; grind) (hP.sub [2, 3, 4, 0, 1] rfl) (hD.sub [2, 3, 4, 0, 1] (by decide) rfl) hS
      · skip
        refine lv_iconst (v := 0) hx hb dX8_leftBy_45 (by decide) ?_
        refine lv_goto (tgt := 56) hx hb dX8_leftBy_46 (by decide) ?_
        refine lv_isub hx hb dX8_leftBy_56 ?_
        refine lv_istore_n (lv' := [(2, .int ((fLF q) - 0)), (0, .ref aM), (1, .int (nI q))]) hx hb dX8_leftBy_57 rfl hl (by decide) rfl (fun ls hl => ?_)
        refine lv_iload_n hx hb dX8_leftBy_58 rfl (lv_at hl 0 rfl) ?_
        refine lv_if_gt (tgt := 71) hx hb dX8_leftBy_59 (by decide) (fun c_59 => ?_) (fun c_59 => ?_)
        · skip
          refine lv_aload_n hx hb dX8_leftBy_71 rfl (lv_at hl 1 rfl) ?_
          refine va_get (D := D) (ci := 8) (v := .ref (mA 14)) (C := RX8) (T := TX8) (N := 44) hx hb hts inX8 hown hK hP 2 rfl rfl 14 (by decide) fl37 (fun _ h9 => h9) rfl dX8_leftBy_72 ?_
          refine lv_iload_n hx hb dX8_leftBy_75 rfl (lv_at hl 2 rfl) ?_
          refine m_iald (k := q) hx hb hK hP 0 0 rfl rfl (by omega) (by decide) dX8_leftBy_76 ?_
          refine lv_iload_n hx hb dX8_leftBy_77 rfl (lv_at hl 0 rfl) ?_
          refine lv_aload_n hx hb dX8_leftBy_78 rfl (lv_at hl 1 rfl) ?_
          refine va_get (D := D) (ci := 8) (v := .ref (mA 19)) (C := RX8) (T := TX8) (N := 44) hx hb hts inX8 hown hK hP 2 rfl rfl 19 (by decide) fl47 (fun _ h9 => h9) rfl dX8_leftBy_79 ?_
          refine lv_aload_n hx hb dX8_leftBy_82 rfl (lv_at hl 1 rfl) ?_
          refine va_get (D := D) (ci := 8) (v := .ref (mA 13)) (C := RX8) (T := TX8) (N := 44) hx hb hts inX8 hown hK hP 2 rfl rfl 13 (by decide) fl34 (fun _ h9 => h9) rfl dX8_leftBy_83 ?_
          refine lv_iload_n hx hb dX8_leftBy_86 rfl (lv_at hl 2 rfl) ?_
          refine m_iald (k := q) hx hb hK hP 1 0 rfl rfl (by omega) (by decide) dX8_leftBy_87 ?_
          refine va_iald hx hb hK hP 3 0 rfl rfl (vp_wide hrk (by decide)) dX8_leftBy_88 ?_
          refine lv_imul hx hb dX8_leftBy_89 ?_
          refine lv_bipush (v := 100) hx hb dX8_leftBy_90 (by decide) ?_
          refine lv_idiv hx hb dX8_leftBy_92 (by decide) ?_
          refine lv_isub hx hb dX8_leftBy_93 ?_
          exact ret ((fLF q) - ((((fLF q) - 0) * (fRU (ix (fRK q)))) / 100)) () _ _ _ _ dX8_leftBy_94 (by unfold mLeft; grind) (hP.sub [2, 3, 4, 0, 1] rfl) (hD.sub [2, 3, 4, 0, 1] (by decide) rfl) hS
        · skip
          refine lv_aload_n hx hb dX8_leftBy_62 rfl (lv_at hl 1 rfl) ?_
          refine va_get (D := D) (ci := 8) (v := .ref (mA 14)) (C := RX8) (T := TX8) (N := 44) hx hb hts inX8 hown hK hP 2 rfl rfl 14 (by decide) fl37 (fun _ h9 => h9) rfl dX8_leftBy_63 ?_
          refine lv_iload_n hx hb dX8_leftBy_66 rfl (lv_at hl 2 rfl) ?_
          refine m_iald (k := q) hx hb hK hP 0 0 rfl rfl (by omega) (by decide) dX8_leftBy_67 ?_
          refine lv_goto (tgt := 94) hx hb dX8_leftBy_68 (by decide) ?_
          exact ret (fLF q) () _ _ _ _ dX8_leftBy_94 (by unfold mLeft; grind) (hP.sub [2, 3, 4, 0, 1] rfl) (hD.sub [2, 3, 4, 0, 1] (by decide) rfl) hS
    · skip
      refine lv_aload_n hx hb dX8_leftBy_22 rfl (lv_at hl 0 rfl) ?_
      refine va_get (D := D) (ci := 8) (v := .ref (mA 14)) (C := RX8) (T := TX8) (N := 44) hx hb hts inX8 hown hK hP 2 rfl rfl 14 (by decide) fl37 (fun _ h9 => h9) rfl dX8_leftBy_23 ?_
      refine lv_iload_n hx hb dX8_leftBy_26 rfl (lv_at hl 1 rfl) ?_
      refine m_iald (k := q) hx hb hK hP 0 0 rfl rfl (by omega) (by decide) dX8_leftBy_27 ?_
      exact ret (fLF q) () _ _ _ _ dX8_leftBy_28 (by unfold mLeft; grind) (hP.sub [2, 3, 4, 0, 1] rfl) (hD.sub [2, 3, 4, 0, 1] (by decide) rfl) hS
abbrev r_c_X8_rankBy : Room := { frames := 1, cells := 0, slots := 0, locals := 21 }
set_option maxHeartbeats 4000000 in
set_option maxRecDepth 100000 in
theorem c_X8_rankBy (l : Launch) (D : va_G) (cI cZ : ClassId) (aM : Nat) (mA : Nat → Nat) (nt : Nat) (th : Int32) (td : Int32) (nm : Nat) (np : Nat) (isd : Int32) (ln : Int32) (rf : Int32) (rp : Int32) (sz : Int32) (nx : Int32) (kd : Int32) (wh : Int32) (pl : Int32) (rd : Int32) (rn : Int32) (ic : Int32) (mcm : Int32) (mcp : Int32) (mcr : Int32) (fRU : Nat → Int32) (fDY : Nat → Int32) (fRK : Nat → Int32) (q : Nat) (hq : q < 40) (hrk : vp_in (fRK q) 4) : MI l yX8_rankBy wsX8_rankBy r_c_X8_rankBy D cI cZ [.ref aM, .int (nI q)] [mo aM mA (nI nt) th td (nI nm) (nI np) isd ln rf rp sz nx kd wh pl rd rn ic mcm mcp mcr, ar cI (mA 19) 20 fRU, ar cI (mA 15) 40 fDY, ar cI (mA 13) 40 fRK] (fun (r : Int32) (u : Unit) => r = mRank fRU (fRK q) (fDY q)) (fun (u : Unit) => [mo aM mA (nI nt) th td (nI nm) (nI np) isd ln rf rp sz nx kd wh pl rd rn ic mcm mcp mcr, ar cI (mA 19) 20 fRU, ar cI (mA 15) 40 fDY, ar cI (mA 13) 40 fRK]) 0 0 := by
  refine MI.of (cc := cX8_rankBy) (maxL := 2) (by decide) rfl (Nat.le_of_ble_eq_true rfl) ?_
  intro p e s m below meth c A Q hx hb hml hown hts hN hK hA ret hP hD hS ls hl
  have hown : s.vm.findClass RX8 = some m.cls := hown
  have inX8 : ∀ w ∈ wsX80, w ∈ wsX8_rankBy := by decide +kernel
  have fl34 := hts (.fieldLink RX8 34 "AdvanceBookModel" "rank" "[I") (by decide +kernel)
  have fl47 := hts (.fieldLink RX8 47 "AdvanceBookModel" "rule" "[I") (by decide +kernel)
  have hP : va_P D vwCl [mo aM mA (nI nt) th td (nI nm) (nI np) isd ln rf rp sz nx kd wh pl rd rn ic mcm mcp mcr, ar cI (mA 19) 20 fRU, ar cI (mA 15) 40 fDY, ar cI (mA 13) 40 fRK] s.heap := hP
  have hD : va_D A [mo aM mA (nI nt) th td (nI nm) (nI np) isd ln rf rp sz nx kd wh pl rd rn ic mcm mcp mcr, ar cI (mA 19) 20 fRU, ar cI (mA 15) 40 fDY, ar cI (mA 13) 40 fRK] := hD
  have hl : lv_has ls 2 [(0, .ref aM), (1, .int (nI q))] := hl
  have e4 := (ix4 hrk).2
  refine lv_aload_n hx hb dX8_rankBy_0 rfl (lv_at hl 0 rfl) ?_
  refine lv_iload_n hx hb dX8_rankBy_1 rfl (lv_at hl 1 rfl) ?_
  refine m_cVi (As := [.int (nI q)]) (rest := []) (wr := [ar cI (mA 13) 40 fRK]) ⟨hx, hb, hml, hown, hts⟩ (c_X8_isMeant l D cI cZ aM mA nt th td nm np isd ln rf rp sz nx kd wh pl rd rn ic mcm mcp mcr fRU fDY q (by first | assumption | omega)) (cwV 1 hts gX8_rankBy_X8_isMeant rfl rfl rfl (by decide +kernel) ⟨Nat.le_of_ble_eq_true rfl, Nat.le_of_ble_eq_true rfl⟩) hN hK hP hD hS hA [0, 1, 2] [3] rfl rfl (by decide) (by decide) (by decide) 0 (ci := 8) rfl rfl rfl rfl hl.1 rfl (Nat.le_of_ble_eq_true rfl) dX8_rankBy_2 ⟨Nat.le_of_ble_eq_true rfl, Nat.le_of_ble_eq_true rfl⟩ (fun r_2 u_2 H locs hq_2 hP hD hS => ?_)
  have hq_2 : r_2 = if fRU 9 < 0 ∨ fDY q < fRU 9 then 1 else 0 := hq_2
  have hP : va_P D vwCl [ar cI (mA 13) 40 fRK, mo aM mA (nI nt) th td (nI nm) (nI np) isd ln rf rp sz nx kd wh pl rd rn ic mcm mcp mcr, ar cI (mA 19) 20 fRU, ar cI (mA 15) 40 fDY] H := hP
  have hD : va_D A [ar cI (mA 13) 40 fRK, mo aM mA (nI nt) th td (nI nm) (nI np) isd ln rf rp sz nx kd wh pl rd rn ic mcm mcp mcr, ar cI (mA 19) 20 fRU, ar cI (mA 15) 40 fDY] := hD
  refine lv_if_eq (tgt := 40) hx hb dX8_rankBy_5 (by decide) (fun c_5 => ?_) (fun c_5 => ?_)
  · skip
    refine lv_aload_n hx hb dX8_rankBy_40 rfl (lv_at hl 0 rfl) ?_
    refine va_get (D := D) (ci := 8) (v := .ref (mA 13)) (C := RX8) (T := TX8) (N := 44) hx hb hts inX8 hown hK hP 1 rfl rfl 13 (by decide) fl34 (fun _ h9 => h9) rfl dX8_rankBy_41 ?_
    refine lv_iload_n hx hb dX8_rankBy_44 rfl (lv_at hl 1 rfl) ?_
    refine m_iald (k := q) hx hb hK hP 0 0 rfl rfl (by omega) (by decide) dX8_rankBy_45 ?_
    exact ret (fRK q) () _ _ _ _ dX8_rankBy_46 (by unfold mRank; rw [← e4]; grind) (hP.sub [1, 2, 3, 0] rfl) (hD.sub [1, 2, 3, 0] (by decide) rfl) hS
  · skip
    refine lv_aload_n hx hb dX8_rankBy_8 rfl (lv_at hl 0 rfl) ?_
    refine va_get (D := D) (ci := 8) (v := .ref (mA 19)) (C := RX8) (T := TX8) (N := 44) hx hb hts inX8 hown hK hP 1 rfl rfl 19 (by decide) fl47 (fun _ h9 => h9) rfl dX8_rankBy_9 ?_
    refine lv_iconst (v := 4) hx hb dX8_rankBy_12 (by decide) ?_
    refine lv_aload_n hx hb dX8_rankBy_13 rfl (lv_at hl 0 rfl) ?_
    refine va_get (D := D) (ci := 8) (v := .ref (mA 13)) (C := RX8) (T := TX8) (N := 44) hx hb hts inX8 hown hK hP 1 rfl rfl 13 (by decide) fl34 (fun _ h9 => h9) rfl dX8_rankBy_14 ?_
    refine lv_iload_n hx hb dX8_rankBy_17 rfl (lv_at hl 1 rfl) ?_
    refine m_iald (k := q) hx hb hK hP 0 0 rfl rfl (by omega) (by decide) dX8_rankBy_18 ?_
    refine lv_iadd hx hb dX8_rankBy_19 ?_
    refine va_iald hx hb hK hP 2 0 rfl rfl ((ix4 hrk).1) dX8_rankBy_20 ?_
    refine lv_if_lt (tgt := 40) hx hb dX8_rankBy_21 (by decide) (fun c_21 => ?_) (fun c_21 => ?_)
    · skip
      refine lv_aload_n hx hb dX8_rankBy_40 rfl (lv_at hl 0 rfl) ?_
      refine va_get (D := D) (ci := 8) (v := .ref (mA 13)) (C := RX8) (T := TX8) (N := 44) hx hb hts inX8 hown hK hP 1 rfl rfl 13 (by decide) fl34 (fun _ h9 => h9) rfl dX8_rankBy_41 ?_
      refine lv_iload_n hx hb dX8_rankBy_44 rfl (lv_at hl 1 rfl) ?_
      refine m_iald (k := q) hx hb hK hP 0 0 rfl rfl (by omega) (by decide) dX8_rankBy_45 ?_
      exact ret (fRK q) () _ _ _ _ dX8_rankBy_46 (by unfold mRank; rw [← e4]; grind) (hP.sub [1, 2, 3, 0] rfl) (hD.sub [1, 2, 3, 0] (by decide) rfl) hS
    · skip
      refine lv_aload_n hx hb dX8_rankBy_24 rfl (lv_at hl 0 rfl) ?_
      refine va_get (D := D) (ci := 8) (v := .ref (mA 19)) (C := RX8) (T := TX8) (N := 44) hx hb hts inX8 hown hK hP 1 rfl rfl 19 (by decide) fl47 (fun _ h9 => h9) rfl dX8_rankBy_25 ?_
      refine lv_iconst (v := 4) hx hb dX8_rankBy_28 (by decide) ?_
      refine lv_aload_n hx hb dX8_rankBy_29 rfl (lv_at hl 0 rfl) ?_
      refine va_get (D := D) (ci := 8) (v := .ref (mA 13)) (C := RX8) (T := TX8) (N := 44) hx hb hts inX8 hown hK hP 1 rfl rfl 13 (by decide) fl34 (fun _ h9 => h9) rfl dX8_rankBy_30 ?_
      refine lv_iload_n hx hb dX8_rankBy_33 rfl (lv_at hl 1 rfl) ?_
      refine m_iald (k := q) hx hb hK hP 0 0 rfl rfl (by omega) (by decide) dX8_rankBy_34 ?_
      refine lv_iadd hx hb dX8_rankBy_35 ?_
      refine va_iald hx hb hK hP 2 0 rfl rfl ((ix4 hrk).1) dX8_rankBy_36 ?_
      refine lv_goto (tgt := 46) hx hb dX8_rankBy_37 (by decide) ?_
      exact ret (fRU (ix (4 + (fRK q)))) () _ _ _ _ dX8_rankBy_46 (by unfold mRank; rw [← e4]; grind) (hP.sub [1, 2, 3, 0] rfl) (hD.sub [1, 2, 3, 0] (by decide) rfl) hS
abbrev r_c_X8_enact : Room := { frames := 2, cells := 0, slots := 0, locals := 43 }
set_option maxHeartbeats 4000000 in
set_option maxRecDepth 100000 in
theorem c_X8_enact (l : Launch) (D : va_G) (cI cZ : ClassId) (aM : Nat) (mA : Nat → Nat) (nt : Nat) (th : Int32) (td : Int32) (nm : Nat) (np : Nat) (isd : Int32) (ln : Int32) (rf : Int32) (rp : Int32) (sz : Int32) (nx : Int32) (kd : Int32) (wh : Int32) (pl : Int32) (rd : Int32) (rn : Int32) (ic : Int32) (mcm : Int32) (mcp : Int32) (mcr : Int32) (fRU : Nat → Int32) (fDY : Nat → Int32) (fLF : Nat → Int32) (fRK : Nat → Int32) (hnp : np ≤ 40) (hrk : ∀ k, k < np → vp_in (fRK k) 4) : MI l yX8_enact wsX8_enact r_c_X8_enact D cI cZ [.ref aM] [mo aM mA (nI nt) th td (nI nm) (nI np) isd ln rf rp sz nx kd wh pl rd rn ic mcm mcp mcr, ar cI (mA 19) 20 fRU, ar cI (mA 15) 40 fDY, ar cI (mA 14) 40 fLF, ar cI (mA 13) 40 fRK] (fun (r : Int32) (u : Int32 × (Nat → Int32) × (Nat → Int32)) => (¬ isd = 0 ∧ r = mLess fRU fLF fRK fDY np ∧ u.1 = 0 ∧ u.2.1 = fil (fun j => mLeft fRU (fLF j) (fRK j) (fDY j)) fLF np ∧ u.2.2 = fil (fun j => mRank fRU (fRK j) (fDY j)) fRK np) ∨ (isd = 0 ∧ r = -1 ∧ u.1 = isd ∧ u.2.1 = fLF ∧ u.2.2 = fRK)) (fun (u : Int32 × (Nat → Int32) × (Nat → Int32)) => [mo aM mA (nI nt) 0 td (nI nm) (nI np) u.1 ln rf rp sz nx kd wh pl rd rn ic mcm mcp mcr, ar cI (mA 19) 20 fRU, ar cI (mA 15) 40 fDY, ar cI (mA 14) 40 u.2.1, ar cI (mA 13) 40 u.2.2]) 0 0 := by
  refine MI.of (cc := cX8_enact) (maxL := 5) (by decide) rfl (Nat.le_of_ble_eq_true rfl) ?_
  intro p e s m below meth c A Q hx hb hml hown hts hN hK hA ret hP hD hS ls hl
  have hown : s.vm.findClass RX8 = some m.cls := hown
  have inX8 : ∀ w ∈ wsX80, w ∈ wsX8_enact := by decide +kernel
  have fl34 := hts (.fieldLink RX8 34 "AdvanceBookModel" "rank" "[I") (by decide +kernel)
  have fl37 := hts (.fieldLink RX8 37 "AdvanceBookModel" "left" "[I") (by decide +kernel)
  have fl87 := hts (.fieldLink RX8 87 "AdvanceBookModel" "thrown" "I") (by decide +kernel)
  have fl101 := hts (.fieldLink RX8 101 "AdvanceBookModel" "papers" "I") (by decide +kernel)
  have fl160 := hts (.fieldLink RX8 160 "AdvanceBookModel" "isDecree" "Z") (by decide +kernel)
  have hP : va_P D vwCl [mo aM mA (nI nt) th td (nI nm) (nI np) isd ln rf rp sz nx kd wh pl rd rn ic mcm mcp mcr, ar cI (mA 19) 20 fRU, ar cI (mA 15) 40 fDY, ar cI (mA 14) 40 fLF, ar cI (mA 13) 40 fRK] s.heap := hP
  have hD : va_D A [mo aM mA (nI nt) th td (nI nm) (nI np) isd ln rf rp sz nx kd wh pl rd rn ic mcm mcp mcr, ar cI (mA 19) 20 fRU, ar cI (mA 15) 40 fDY, ar cI (mA 14) 40 fLF, ar cI (mA 13) 40 fRK] := hD
  have hl : lv_has ls 5 [(0, .ref aM)] := hl
  refine lv_aload_n hx hb dX8_enact_0 rfl (lv_at hl 0 rfl) ?_
  refine lv_iconst (v := 0) hx hb dX8_enact_1 (by decide) ?_
  refine va_put (D := D) (ci := 8) (v := .int 0) (ty := .int) (C := RX8) (T := TX8) (N := 44) hx hb hts inX8 tyX8 tyX8_ok nmX8 hown hK hP hD hS 0 rfl rfl 2 (by decide) fl87 (fun _ h9 => h9) rfl (by decide +kernel) (rfl) (rfl) (Nat.le_of_ble_eq_true rfl) dX8_enact_2 (fun H locs hP hD hS => ?_)
  have hP : va_P D vwCl [mo aM mA (nI nt) 0 td (nI nm) (nI np) isd ln rf rp sz nx kd wh pl rd rn ic mcm mcp mcr, ar cI (mA 19) 20 fRU, ar cI (mA 15) 40 fDY, ar cI (mA 14) 40 fLF, ar cI (mA 13) 40 fRK] H := hP
  have hD : va_D A [mo aM mA (nI nt) 0 td (nI nm) (nI np) isd ln rf rp sz nx kd wh pl rd rn ic mcm mcp mcr, ar cI (mA 19) 20 fRU, ar cI (mA 15) 40 fDY, ar cI (mA 14) 40 fLF, ar cI (mA 13) 40 fRK] := hD
  refine lv_aload_n hx hb dX8_enact_5 rfl (lv_at hl 0 rfl) ?_
  refine va_get (D := D) (ci := 8) (v := .int isd) (C := RX8) (T := TX8) (N := 44) hx hb hts inX8 hown hK hP 0 rfl rfl 17 (by decide) fl160 (fun _ h9 => h9) rfl dX8_enact_6 ?_
  refine lv_if_ne (tgt := 14) hx hb dX8_enact_9 (by decide) (fun c_9 => ?_) (fun c_9 => ?_)
  · skip
    refine lv_iconst (v := 0) hx hb dX8_enact_14 (by decide) ?_
    refine lv_istore_n (lv' := [(1, .int 0), (0, .ref aM)]) hx hb dX8_enact_15 rfl hl (by decide) rfl (fun ls hl => ?_)
    refine lv_iconst (v := 0) hx hb dX8_enact_16 (by decide) ?_
    refine lv_istore_n (lv' := [(2, .int 0), (1, .int 0), (0, .ref aM)]) hx hb dX8_enact_17 rfl hl (by decide) rfl (fun ls hl => ?_)
    have L_18 : ∀ (n_18 : Nat) (k : Nat) (sm : Int32) (hLF : Nat → Int32) (hRK : Nat → Int32), (np - k < n_18) → (k ≤ np) → (sm = mLess fRU fLF fRK fDY k) → (hLF = fil (fun j => mLeft fRU (fLF j) (fRK j) (fDY j)) fLF k) → (hRK = fil (fun j => mRank fRU (fRK j) (fDY j)) fRK k) → ∀ (H : Heap) (locs : List Loc), va_P D vwCl [mo aM mA (nI nt) 0 td (nI nm) (nI np) isd ln rf rp sz nx kd wh pl rd rn ic mcm mcp mcr, ar cI (mA 19) 20 fRU, ar cI (mA 15) 40 fDY, ar cI (mA 14) 40 hLF, ar cI (mA 13) 40 hRK] H → va_D A [mo aM mA (nI nt) 0 td (nI nm) (nI np) isd ln rf rp sz nx kd wh pl rd rn ic mcm mcp mcr, ar cI (mA 19) 20 fRU, ar cI (mA 15) 40 fDY, ar cI (mA 14) 40 hLF, ar cI (mA 13) 40 hRK] → va_S A s.heap H locs → ∀ ls : Array Slot, lv_has ls 5 [(0, .ref aM), (1, .int sm), (2, .int (nI k))] → W p l e r_c_X8_enact s m (([.ref aM] : List Value).toArray) below meth c H locs 0 0 Q (F0 m 18 ls []) := by
      intro n_18
      induction n_18 with
      | zero => intro k sm hLF hRK hfu; exact absurd hfu (Nat.not_lt_zero _)
      | succ n_18 ih_18 =>
        intro k sm hLF hRK hfu_18 hk hs h1 h2 H locs hP hD hS ls hl
        have e1 := fil_at h1
        have e2 := fil_at h2
        refine lv_iload_n hx hb dX8_enact_18 rfl (lv_at hl 2 rfl) ?_
        refine lv_aload_n hx hb dX8_enact_19 rfl (lv_at hl 0 rfl) ?_
        refine va_get (D := D) (ci := 8) (v := .int (nI np)) (C := RX8) (T := TX8) (N := 44) hx hb hts inX8 hown hK hP 0 rfl rfl 6 (by decide) fl101 (fun _ h9 => h9) rfl dX8_enact_20 ?_
        refine lv_icmp_ge (tgt := 71) hx hb dX8_enact_23 (by decide) (fun c_23 => ?_) (fun c_23 => ?_)
        · skip
          have k_23 : np ≤ k := (nI_leI (a := np) (b := k) (by omega) (by omega)).mp c_23
          refine lv_aload_n hx hb dX8_enact_71 rfl (lv_at hl 0 rfl) ?_
          refine lv_iconst (v := 0) hx hb dX8_enact_72 (by decide) ?_
          refine va_put (D := D) (ci := 8) (v := .int 0) (ty := .boolean) (C := RX8) (T := TX8) (N := 44) hx hb hts inX8 tyX8 tyX8_ok nmX8 hown hK hP hD hS 0 rfl rfl 17 (by decide) fl160 (fun _ h9 => h9) rfl (by decide +kernel) (rfl) (rfl) (Nat.le_of_ble_eq_true rfl) dX8_enact_73 (fun H locs hP hD hS => ?_)
          have hP : va_P D vwCl [mo aM mA (nI nt) 0 td (nI nm) (nI np) 0 ln rf rp sz nx kd wh pl rd rn ic mcm mcp mcr, ar cI (mA 19) 20 fRU, ar cI (mA 15) 40 fDY, ar cI (mA 14) 40 hLF, ar cI (mA 13) 40 hRK] H := hP
          have hD : va_D A [mo aM mA (nI nt) 0 td (nI nm) (nI np) 0 ln rf rp sz nx kd wh pl rd rn ic mcm mcp mcr, ar cI (mA 19) 20 fRU, ar cI (mA 15) 40 fDY, ar cI (mA 14) 40 hLF, ar cI (mA 13) 40 hRK] := hD
          refine lv_iload_n hx hb dX8_enact_76 rfl (lv_at hl 1 rfl) ?_
          exact ret sm (0, hLF, hRK) _ _ _ _ dX8_enact_77 (by have e : k = np := (by omega); subst e; exact Or.inl ⟨c_9, hs, rfl, h1, h2⟩) (hP) (hD) hS
        · skip
          have k_23 : ¬ np ≤ k := fun h9 => c_23 ((nI_leI (a := np) (b := k) (by omega) (by omega)).mpr h9)
          refine lv_aload_n hx hb dX8_enact_26 rfl (lv_at hl 0 rfl) ?_
          refine lv_iload_n hx hb dX8_enact_27 rfl (lv_at hl 2 rfl) ?_
          have hv : vp_in (hRK k) 4 := (by rw [e2]; exact hrk k (by omega))
          refine m_cVi (As := [.int (nI k)]) (rest := []) (wr := []) ⟨hx, hb, hml, hown, hts⟩ (c_X8_leftBy l D cI cZ aM mA nt 0 td nm np isd ln rf rp sz nx kd wh pl rd rn ic mcm mcp mcr fRU fDY hLF hRK k (by first | assumption | omega) (hv)) (cwV 1 hts gX8_enact_X8_leftBy rfl rfl rfl (by decide +kernel) ⟨Nat.le_of_ble_eq_true rfl, Nat.le_of_ble_eq_true rfl⟩) hN hK hP hD hS hA [0, 1, 2, 3, 4] [] rfl rfl (by decide) (by decide) (by decide) 0 (ci := 8) rfl rfl rfl rfl hl.1 rfl (Nat.le_of_ble_eq_true rfl) dX8_enact_28 ⟨Nat.le_of_ble_eq_true rfl, Nat.le_of_ble_eq_true rfl⟩ (fun r_28 u_28 H locs hq_28 hP hD hS => ?_)
          have hq_28 : r_28 = mLeft fRU (hLF k) (hRK k) (fDY k) := hq_28
          have hP : va_P D vwCl [mo aM mA (nI nt) 0 td (nI nm) (nI np) isd ln rf rp sz nx kd wh pl rd rn ic mcm mcp mcr, ar cI (mA 19) 20 fRU, ar cI (mA 15) 40 fDY, ar cI (mA 14) 40 hLF, ar cI (mA 13) 40 hRK] H := hP
          have hD : va_D A [mo aM mA (nI nt) 0 td (nI nm) (nI np) isd ln rf rp sz nx kd wh pl rd rn ic mcm mcp mcr, ar cI (mA 19) 20 fRU, ar cI (mA 15) 40 fDY, ar cI (mA 14) 40 hLF, ar cI (mA 13) 40 hRK] := hD
          refine lv_istore_n (lv' := [(3, .int r_28), (0, .ref aM), (1, .int sm), (2, .int (nI k))]) hx hb dX8_enact_31 rfl hl (by decide) rfl (fun ls hl => ?_)
          refine lv_aload_n hx hb dX8_enact_32 rfl (lv_at hl 1 rfl) ?_
          refine lv_iload_n hx hb dX8_enact_33 rfl (lv_at hl 3 rfl) ?_
          refine m_cVi (As := [.int (nI k)]) (rest := []) (wr := [ar cI (mA 14) 40 hLF]) ⟨hx, hb, hml, hown, hts⟩ (c_X8_rankBy l D cI cZ aM mA nt 0 td nm np isd ln rf rp sz nx kd wh pl rd rn ic mcm mcp mcr fRU fDY hRK k (by first | assumption | omega) (hv)) (cwV 1 hts gX8_enact_X8_rankBy rfl rfl rfl (by decide +kernel) ⟨Nat.le_of_ble_eq_true rfl, Nat.le_of_ble_eq_true rfl⟩) hN hK hP hD hS hA [0, 1, 2, 4] [3] rfl rfl (by decide) (by decide) (by decide) 0 (ci := 8) rfl rfl rfl rfl hl.1 rfl (Nat.le_of_ble_eq_true rfl) dX8_enact_34 ⟨Nat.le_of_ble_eq_true rfl, Nat.le_of_ble_eq_true rfl⟩ (fun r_34 u_34 H locs hq_34 hP hD hS => ?_)
          have hq_34 : r_34 = mRank fRU (hRK k) (fDY k) := hq_34
          have hP : va_P D vwCl [ar cI (mA 14) 40 hLF, mo aM mA (nI nt) 0 td (nI nm) (nI np) isd ln rf rp sz nx kd wh pl rd rn ic mcm mcp mcr, ar cI (mA 19) 20 fRU, ar cI (mA 15) 40 fDY, ar cI (mA 13) 40 hRK] H := hP
          have hD : va_D A [ar cI (mA 14) 40 hLF, mo aM mA (nI nt) 0 td (nI nm) (nI np) isd ln rf rp sz nx kd wh pl rd rn ic mcm mcp mcr, ar cI (mA 19) 20 fRU, ar cI (mA 15) 40 fDY, ar cI (mA 13) 40 hRK] := hD
          refine lv_istore (lv' := [(4, .int r_34), (3, .int r_28), (0, .ref aM), (1, .int sm), (2, .int (nI k))]) hx hb dX8_enact_37 hl (by decide) rfl (fun ls hl => ?_)
          refine lv_iload_n hx hb dX8_enact_39 rfl (lv_at hl 3 rfl) ?_
          refine lv_aload_n hx hb dX8_enact_40 rfl (lv_at hl 2 rfl) ?_
          refine va_get (D := D) (ci := 8) (v := .ref (mA 14)) (C := RX8) (T := TX8) (N := 44) hx hb hts inX8 hown hK hP 1 rfl rfl 14 (by decide) fl37 (fun _ h9 => h9) rfl dX8_enact_41 ?_
          refine lv_iload_n hx hb dX8_enact_44 rfl (lv_at hl 4 rfl) ?_
          refine m_iald (k := k) hx hb hK hP 0 0 rfl rfl (by omega) (by decide) dX8_enact_45 ?_
          refine lv_iload_n hx hb dX8_enact_46 rfl (lv_at hl 1 rfl) ?_
          refine lv_isub hx hb dX8_enact_47 ?_
          refine lv_iadd hx hb dX8_enact_48 ?_
          refine lv_istore_n (lv' := [(1, .int (sm + ((hLF k) - r_28))), (4, .int r_34), (3, .int r_28), (0, .ref aM), (2, .int (nI k))]) hx hb dX8_enact_49 rfl hl (by decide) rfl (fun ls hl => ?_)
          refine lv_aload_n hx hb dX8_enact_50 rfl (lv_at hl 3 rfl) ?_
          refine va_get (D := D) (ci := 8) (v := .ref (mA 14)) (C := RX8) (T := TX8) (N := 44) hx hb hts inX8 hown hK hP 1 rfl rfl 14 (by decide) fl37 (fun _ h9 => h9) rfl dX8_enact_51 ?_
          refine lv_iload_n hx hb dX8_enact_54 rfl (lv_at hl 4 rfl) ?_
          refine lv_iload_n hx hb dX8_enact_55 rfl (lv_at hl 2 rfl) ?_
          refine m_iast (k := k) (x := r_28) hx hb hK hP hD hS 0 0 rfl rfl (by omega) (by decide) dX8_enact_56 (fun H locs hP hD hS => ?_)
          have hP : va_P D vwCl [ar cI (mA 14) 40 (upd hLF k r_28), mo aM mA (nI nt) 0 td (nI nm) (nI np) isd ln rf rp sz nx kd wh pl rd rn ic mcm mcp mcr, ar cI (mA 19) 20 fRU, ar cI (mA 15) 40 fDY, ar cI (mA 13) 40 hRK] H := hP
          have hD : va_D A [ar cI (mA 14) 40 (upd hLF k r_28), mo aM mA (nI nt) 0 td (nI nm) (nI np) isd ln rf rp sz nx kd wh pl rd rn ic mcm mcp mcr, ar cI (mA 19) 20 fRU, ar cI (mA 15) 40 fDY, ar cI (mA 13) 40 hRK] := hD
          refine lv_aload_n hx hb dX8_enact_57 rfl (lv_at hl 3 rfl) ?_
          refine va_get (D := D) (ci := 8) (v := .ref (mA 13)) (C := RX8) (T := TX8) (N := 44) hx hb hts inX8 hown hK hP 1 rfl rfl 13 (by decide) fl34 (fun _ h9 => h9) rfl dX8_enact_58 ?_
          refine lv_iload_n hx hb dX8_enact_61 rfl (lv_at hl 4 rfl) ?_
          refine lv_iload hx hb dX8_enact_62 (lv_at hl 1 rfl) ?_
          refine m_iast (k := k) (x := r_34) hx hb hK hP hD hS 4 0 rfl rfl (by omega) (by decide) dX8_enact_64 (fun H locs hP hD hS => ?_)
          have hP : va_P D vwCl [ar cI (mA 14) 40 (upd hLF k r_28), mo aM mA (nI nt) 0 td (nI nm) (nI np) isd ln rf rp sz nx kd wh pl rd rn ic mcm mcp mcr, ar cI (mA 19) 20 fRU, ar cI (mA 15) 40 fDY, ar cI (mA 13) 40 (upd hRK k r_34)] H := hP
          have hD : va_D A [ar cI (mA 14) 40 (upd hLF k r_28), mo aM mA (nI nt) 0 td (nI nm) (nI np) isd ln rf rp sz nx kd wh pl rd rn ic mcm mcp mcr, ar cI (mA 19) 20 fRU, ar cI (mA 15) 40 fDY, ar cI (mA 13) 40 (upd hRK k r_34)] := hD
          refine lv_iinc (v := (nI (k + 1))) (lv' := [(2, .int (nI (k + 1))), (1, .int (sm + ((hLF k) - r_28))), (4, .int r_34), (3, .int r_28), (0, .ref aM)]) hx hb dX8_enact_65 hl (k := 4) rfl (nI_inc k 1 (by decide)) (by decide) rfl (fun ls hl => ?_)
          refine lv_goto (tgt := 18) hx hb dX8_enact_68 (by decide) ?_
          exact ih_18 (k + 1) (sm + ((hLF k) - r_28)) (upd hLF k r_28) (upd hRK k r_34) (by omega) (by omega) (by rw [hs, hq_28, e1, e2]; rfl) (fil_step h1 (by rw [hq_28, e1, e2])) (fil_step h2 (by rw [hq_34, e2])) _ _ (hP.sub [1, 2, 3, 0, 4] rfl) (hD.sub [1, 2, 3, 0, 4] (by decide) rfl) hS ls (lv_sub hl [4, 1, 0] rfl)
    exact L_18 ((np - 0) + 1) 0 0 fLF fRK (Nat.lt_succ_self _) (by omega) (rfl) (fil_0.symm) (fil_0.symm) _ _ (hP) (hD) hS ls (lv_sub hl [2, 1, 0] rfl)
  · skip
    refine lv_iconst (v := (-1)) hx hb dX8_enact_12 (by decide) ?_
    exact ret (-1) (isd, fLF, fRK) _ _ _ _ dX8_enact_13 (Or.inr ⟨c_9, rfl, rfl, rfl, rfl⟩) (hP) (hD) hS
abbrev r_c_X8_cleared : Room := { frames := 0, cells := 0, slots := 0, locals := 0 }
set_option maxHeartbeats 4000000 in
set_option maxRecDepth 100000 in
theorem c_X8_cleared (l : Launch) (D : va_G) (cI cZ : ClassId) (aM : Nat) (mA : Nat → Nat) (nt : Nat) (th : Int32) (td : Int32) (nm : Nat) (np : Nat) (isd : Int32) (ln : Int32) (rf : Int32) (rp : Int32) (sz : Int32) (nx : Int32) (kd : Int32) (wh : Int32) (pl : Int32) (rd : Int32) (rn : Int32) (ic : Int32) (mcr : Int32) (cm : Nat) (cpn : Nat) (fcP : Nat → Int32) (fcH : Nat → Int32) (fcF : Nat → Int32) (fcO : Nat → Int32) (x : Int32) (k : Int32) (hcm : cm ≤ 10) (hcp : cpn ≤ 40) : MI l yX8_cleared wsX8_cleared r_c_X8_cleared D cI cZ [.ref aM, .int x, .int k] [mo aM mA (nI nt) th td (nI nm) (nI np) isd ln rf rp sz nx kd wh pl rd rn ic (nI cm) (nI cpn) mcr, ar cI (mA 40) 40 fcP, ar cI (mA 41) 10 fcH, ar cI (mA 42) 10 fcF, ar cI (mA 43) 10 fcO] (fun (r : Int32) (u : Unit) => r = if ic = 0 then -1 else tellC fcP fcH fcF fcO cpn cm x k) (fun (u : Unit) => [mo aM mA (nI nt) 0 td (nI nm) (nI np) isd ln rf rp sz nx kd wh pl rd rn ic (nI cm) (nI cpn) mcr, ar cI (mA 40) 40 fcP, ar cI (mA 41) 10 fcH, ar cI (mA 42) 10 fcF, ar cI (mA 43) 10 fcO]) 0 0 := by
  refine MI.of (cc := cX8_cleared) (maxL := 3) (by decide) rfl (Nat.le_of_ble_eq_true rfl) ?_
  intro p e s m below meth c A Q hx hb hml hown hts hN hK hA ret hP hD hS ls hl
  have hown : s.vm.findClass RX8 = some m.cls := hown
  have inX8 : ∀ w ∈ wsX80, w ∈ wsX8_cleared := by decide +kernel
  have fl75 := hts (.fieldLink RX8 75 "AdvanceBookModel" "cPaid" "[I") (by decide +kernel)
  have fl78 := hts (.fieldLink RX8 78 "AdvanceBookModel" "cHas" "[I") (by decide +kernel)
  have fl81 := hts (.fieldLink RX8 81 "AdvanceBookModel" "cFailed" "[I") (by decide +kernel)
  have fl84 := hts (.fieldLink RX8 84 "AdvanceBookModel" "cOwes" "[I") (by decide +kernel)
  have fl87 := hts (.fieldLink RX8 87 "AdvanceBookModel" "thrown" "I") (by decide +kernel)
  have fl186 := hts (.fieldLink RX8 186 "AdvanceBookModel" "isCleared" "Z") (by decide +kernel)
  have fl189 := hts (.fieldLink RX8 189 "AdvanceBookModel" "cMen" "I") (by decide +kernel)
  have fl192 := hts (.fieldLink RX8 192 "AdvanceBookModel" "cPapers" "I") (by decide +kernel)
  have hP : va_P D vwCl [mo aM mA (nI nt) th td (nI nm) (nI np) isd ln rf rp sz nx kd wh pl rd rn ic (nI cm) (nI cpn) mcr, ar cI (mA 40) 40 fcP, ar cI (mA 41) 10 fcH, ar cI (mA 42) 10 fcF, ar cI (mA 43) 10 fcO] s.heap := hP
  have hD : va_D A [mo aM mA (nI nt) th td (nI nm) (nI np) isd ln rf rp sz nx kd wh pl rd rn ic (nI cm) (nI cpn) mcr, ar cI (mA 40) 40 fcP, ar cI (mA 41) 10 fcH, ar cI (mA 42) 10 fcF, ar cI (mA 43) 10 fcO] := hD
  have hl : lv_has ls 3 [(0, .ref aM), (1, .int x), (2, .int k)] := hl
  refine lv_aload_n hx hb dX8_cleared_0 rfl (lv_at hl 0 rfl) ?_
  refine lv_iconst (v := 0) hx hb dX8_cleared_1 (by decide) ?_
  refine va_put (D := D) (ci := 8) (v := .int 0) (ty := .int) (C := RX8) (T := TX8) (N := 44) hx hb hts inX8 tyX8 tyX8_ok nmX8 hown hK hP hD hS 0 rfl rfl 2 (by decide) fl87 (fun _ h9 => h9) rfl (by decide +kernel) (rfl) (rfl) (Nat.le_of_ble_eq_true rfl) dX8_cleared_2 (fun H locs hP hD hS => ?_)
  have hP : va_P D vwCl [mo aM mA (nI nt) 0 td (nI nm) (nI np) isd ln rf rp sz nx kd wh pl rd rn ic (nI cm) (nI cpn) mcr, ar cI (mA 40) 40 fcP, ar cI (mA 41) 10 fcH, ar cI (mA 42) 10 fcF, ar cI (mA 43) 10 fcO] H := hP
  have hD : va_D A [mo aM mA (nI nt) 0 td (nI nm) (nI np) isd ln rf rp sz nx kd wh pl rd rn ic (nI cm) (nI cpn) mcr, ar cI (mA 40) 40 fcP, ar cI (mA 41) 10 fcH, ar cI (mA 42) 10 fcF, ar cI (mA 43) 10 fcO] := hD
  refine lv_aload_n hx hb dX8_cleared_5 rfl (lv_at hl 0 rfl) ?_
  refine va_get (D := D) (ci := 8) (v := .int ic) (C := RX8) (T := TX8) (N := 44) hx hb hts inX8 hown hK hP 0 rfl rfl 36 (by decide) fl186 (fun _ h9 => h9) rfl dX8_cleared_6 ?_
  refine lv_if_eq (tgt := 44) hx hb dX8_cleared_9 (by decide) (fun c_9 => ?_) (fun c_9 => ?_)
  · skip
    refine lv_iconst (v := (-1)) hx hb dX8_cleared_44 (by decide) ?_
    exact ret (-1) () _ _ _ _ dX8_cleared_45 (by unfold tellC; grind) (hP) (hD) hS
  · skip
    refine lv_iload_n hx hb dX8_cleared_12 rfl (lv_at hl 1 rfl) ?_
    refine lv_if_lt (tgt := 44) hx hb dX8_cleared_13 (by decide) (fun c_13 => ?_) (fun c_13 => ?_)
    · skip
      refine lv_iconst (v := (-1)) hx hb dX8_cleared_44 (by decide) ?_
      exact ret (-1) () _ _ _ _ dX8_cleared_45 (by unfold tellC; grind) (hP) (hD) hS
    · skip
      refine lv_iload_n hx hb dX8_cleared_16 rfl (lv_at hl 1 rfl) ?_
      refine lv_iconst (v := 3) hx hb dX8_cleared_17 (by decide) ?_
      refine lv_icmp_gt (tgt := 44) hx hb dX8_cleared_18 (by decide) (fun c_18 => ?_) (fun c_18 => ?_)
      · skip
        refine lv_iconst (v := (-1)) hx hb dX8_cleared_44 (by decide) ?_
        exact ret (-1) () _ _ _ _ dX8_cleared_45 (by unfold tellC; grind) (hP) (hD) hS
      · skip
        refine lv_iload_n hx hb dX8_cleared_21 rfl (lv_at hl 2 rfl) ?_
        refine lv_if_lt (tgt := 44) hx hb dX8_cleared_22 (by decide) (fun c_22 => ?_) (fun c_22 => ?_)
        · skip
          refine lv_iconst (v := (-1)) hx hb dX8_cleared_44 (by decide) ?_
          exact ret (-1) () _ _ _ _ dX8_cleared_45 (by unfold tellC; grind) (hP) (hD) hS
        · skip
          refine lv_iload_n hx hb dX8_cleared_25 rfl (lv_at hl 2 rfl) ?_
          refine lv_iload_n hx hb dX8_cleared_26 rfl (lv_at hl 1 rfl) ?_
          refine lv_if_ne (tgt := 37) hx hb dX8_cleared_27 (by decide) (fun c_27 => ?_) (fun c_27 => ?_)
          · skip
            refine lv_aload_n hx hb dX8_cleared_37 rfl (lv_at hl 0 rfl) ?_
            refine va_get (D := D) (ci := 8) (v := .int (nI cm)) (C := RX8) (T := TX8) (N := 44) hx hb hts inX8 hown hK hP 0 rfl rfl 37 (by decide) fl189 (fun _ h9 => h9) rfl dX8_cleared_38 ?_
            refine lv_icmp_lt (tgt := 46) hx hb dX8_cleared_41 (by decide) (fun c_41 => ?_) (fun c_41 => ?_)
            · skip
              refine lv_iload_n hx hb dX8_cleared_46 rfl (lv_at hl 1 rfl) ?_
              refine lv_if_ne (tgt := 59) hx hb dX8_cleared_47 (by decide) (fun c_47 => ?_) (fun c_47 => ?_)
              · skip
                refine lv_iload_n hx hb dX8_cleared_59 rfl (lv_at hl 1 rfl) ?_
                refine lv_iconst (v := 1) hx hb dX8_cleared_60 (by decide) ?_
                refine lv_icmp_ne (tgt := 73) hx hb dX8_cleared_61 (by decide) (fun c_61 => ?_) (fun c_61 => ?_)
                · skip
                  refine lv_iload_n hx hb dX8_cleared_73 rfl (lv_at hl 1 rfl) ?_
                  refine lv_iconst (v := 2) hx hb dX8_cleared_74 (by decide) ?_
                  refine lv_icmp_ne (tgt := 87) hx hb dX8_cleared_75 (by decide) (fun c_75 => ?_) (fun c_75 => ?_)
                  · skip
                    refine lv_aload_n hx hb dX8_cleared_87 rfl (lv_at hl 0 rfl) ?_
                    refine va_get (D := D) (ci := 8) (v := .ref (mA 43)) (C := RX8) (T := TX8) (N := 44) hx hb hts inX8 hown hK hP 0 rfl rfl 43 (by decide) fl84 (fun _ h9 => h9) rfl dX8_cleared_88 ?_
                    refine lv_iload_n hx hb dX8_cleared_91 rfl (lv_at hl 2 rfl) ?_
                    refine va_iald hx hb hK hP 4 0 rfl rfl (by first | exact vp_in_range c_22 c_41 (by omega) (by decide) | exact absurd c_27 c_47 | exact absurd c_47 c_27) dX8_cleared_92 ?_
                    exact ret (fcO (ix k)) () _ _ _ _ dX8_cleared_93 (by have hx3 : ¬ (¬ x = 0 ∧ ¬ x = 1 ∧ ¬ x = 2 ∧ ¬ x = 3) := x3_of c_13 c_18; unfold tellC; grind) (hP) (hD) hS
                  · skip
                    refine lv_aload_n hx hb dX8_cleared_78 rfl (lv_at hl 0 rfl) ?_
                    refine va_get (D := D) (ci := 8) (v := .ref (mA 42)) (C := RX8) (T := TX8) (N := 44) hx hb hts inX8 hown hK hP 0 rfl rfl 42 (by decide) fl81 (fun _ h9 => h9) rfl dX8_cleared_79 ?_
                    refine lv_iload_n hx hb dX8_cleared_82 rfl (lv_at hl 2 rfl) ?_
                    refine va_iald hx hb hK hP 3 0 rfl rfl (by first | exact vp_in_range c_22 c_41 (by omega) (by decide) | exact absurd c_27 c_47 | exact absurd c_47 c_27) dX8_cleared_83 ?_
                    refine lv_goto (tgt := 93) hx hb dX8_cleared_84 (by decide) ?_
                    exact ret (fcF (ix k)) () _ _ _ _ dX8_cleared_93 (by have hx3 : ¬ (¬ x = 0 ∧ ¬ x = 1 ∧ ¬ x = 2 ∧ ¬ x = 3) := x3_of c_13 c_18; unfold tellC; grind) (hP) (hD) hS
                · skip
                  refine lv_aload_n hx hb dX8_cleared_64 rfl (lv_at hl 0 rfl) ?_
                  refine va_get (D := D) (ci := 8) (v := .ref (mA 41)) (C := RX8) (T := TX8) (N := 44) hx hb hts inX8 hown hK hP 0 rfl rfl 41 (by decide) fl78 (fun _ h9 => h9) rfl dX8_cleared_65 ?_
                  refine lv_iload_n hx hb dX8_cleared_68 rfl (lv_at hl 2 rfl) ?_
                  refine va_iald hx hb hK hP 2 0 rfl rfl (by first | exact vp_in_range c_22 c_41 (by omega) (by decide) | exact absurd c_27 c_47 | exact absurd c_47 c_27) dX8_cleared_69 ?_
                  refine lv_goto (tgt := 93) hx hb dX8_cleared_70 (by decide) ?_
                  exact ret (fcH (ix k)) () _ _ _ _ dX8_cleared_93 (by have hx3 : ¬ (¬ x = 0 ∧ ¬ x = 1 ∧ ¬ x = 2 ∧ ¬ x = 3) := x3_of c_13 c_18; unfold tellC; grind) (hP) (hD) hS
              · skip
                refine lv_aload_n hx hb dX8_cleared_50 rfl (lv_at hl 0 rfl) ?_
                refine va_get (D := D) (ci := 8) (v := .ref (mA 40)) (C := RX8) (T := TX8) (N := 44) hx hb hts inX8 hown hK hP 0 rfl rfl 40 (by decide) fl75 (fun _ h9 => h9) rfl dX8_cleared_51 ?_
                refine lv_iload_n hx hb dX8_cleared_54 rfl (lv_at hl 2 rfl) ?_
                refine va_iald hx hb hK hP 1 0 rfl rfl (by first | exact vp_in_range c_22 c_41 (by omega) (by decide) | exact absurd c_27 c_47 | exact absurd c_47 c_27) dX8_cleared_55 ?_
                refine lv_goto (tgt := 93) hx hb dX8_cleared_56 (by decide) ?_
                exact ret (fcP (ix k)) () _ _ _ _ dX8_cleared_93 (by have hx3 : ¬ (¬ x = 0 ∧ ¬ x = 1 ∧ ¬ x = 2 ∧ ¬ x = 3) := x3_of c_13 c_18; unfold tellC; grind) (hP) (hD) hS
            · skip
              refine lv_iconst (v := (-1)) hx hb dX8_cleared_44 (by decide) ?_
              exact ret (-1) () _ _ _ _ dX8_cleared_45 (by unfold tellC; grind) (hP) (hD) hS
          · skip
            refine lv_aload_n hx hb dX8_cleared_30 rfl (lv_at hl 0 rfl) ?_
            refine va_get (D := D) (ci := 8) (v := .int (nI cpn)) (C := RX8) (T := TX8) (N := 44) hx hb hts inX8 hown hK hP 0 rfl rfl 38 (by decide) fl192 (fun _ h9 => h9) rfl dX8_cleared_31 ?_
            refine lv_goto (tgt := 41) hx hb dX8_cleared_34 (by decide) ?_
            refine lv_icmp_lt (tgt := 46) hx hb dX8_cleared_41 (by decide) (fun c_41 => ?_) (fun c_41 => ?_)
            · skip
              refine lv_iload_n hx hb dX8_cleared_46 rfl (lv_at hl 1 rfl) ?_
              refine lv_if_ne (tgt := 59) hx hb dX8_cleared_47 (by decide) (fun c_47 => ?_) (fun c_47 => ?_)
              · skip
                refine lv_iload_n hx hb dX8_cleared_59 rfl (lv_at hl 1 rfl) ?_
                refine lv_iconst (v := 1) hx hb dX8_cleared_60 (by decide) ?_
                refine lv_icmp_ne (tgt := 73) hx hb dX8_cleared_61 (by decide) (fun c_61 => ?_) (fun c_61 => ?_)
                · skip
                  refine lv_iload_n hx hb dX8_cleared_73 rfl (lv_at hl 1 rfl) ?_
                  refine lv_iconst (v := 2) hx hb dX8_cleared_74 (by decide) ?_
                  refine lv_icmp_ne (tgt := 87) hx hb dX8_cleared_75 (by decide) (fun c_75 => ?_) (fun c_75 => ?_)
                  · skip
                    refine lv_aload_n hx hb dX8_cleared_87 rfl (lv_at hl 0 rfl) ?_
                    refine va_get (D := D) (ci := 8) (v := .ref (mA 43)) (C := RX8) (T := TX8) (N := 44) hx hb hts inX8 hown hK hP 0 rfl rfl 43 (by decide) fl84 (fun _ h9 => h9) rfl dX8_cleared_88 ?_
                    refine lv_iload_n hx hb dX8_cleared_91 rfl (lv_at hl 2 rfl) ?_
                    refine va_iald hx hb hK hP 4 0 rfl rfl (by first | exact vp_in_range c_22 c_41 (by omega) (by decide) | exact absurd c_27 c_47 | exact absurd c_47 c_27) dX8_cleared_92 ?_
                    exact ret (fcO (ix k)) () _ _ _ _ dX8_cleared_93 (by have hx3 : ¬ (¬ x = 0 ∧ ¬ x = 1 ∧ ¬ x = 2 ∧ ¬ x = 3) := x3_of c_13 c_18; unfold tellC; grind) (hP) (hD) hS
                  · skip
                    refine lv_aload_n hx hb dX8_cleared_78 rfl (lv_at hl 0 rfl) ?_
                    refine va_get (D := D) (ci := 8) (v := .ref (mA 42)) (C := RX8) (T := TX8) (N := 44) hx hb hts inX8 hown hK hP 0 rfl rfl 42 (by decide) fl81 (fun _ h9 => h9) rfl dX8_cleared_79 ?_
                    refine lv_iload_n hx hb dX8_cleared_82 rfl (lv_at hl 2 rfl) ?_
                    refine va_iald hx hb hK hP 3 0 rfl rfl (by first | exact vp_in_range c_22 c_41 (by omega) (by decide) | exact absurd c_27 c_47 | exact absurd c_47 c_27) dX8_cleared_83 ?_
                    refine lv_goto (tgt := 93) hx hb dX8_cleared_84 (by decide) ?_
                    exact ret (fcF (ix k)) () _ _ _ _ dX8_cleared_93 (by have hx3 : ¬ (¬ x = 0 ∧ ¬ x = 1 ∧ ¬ x = 2 ∧ ¬ x = 3) := x3_of c_13 c_18; unfold tellC; grind) (hP) (hD) hS
                · skip
                  refine lv_aload_n hx hb dX8_cleared_64 rfl (lv_at hl 0 rfl) ?_
                  refine va_get (D := D) (ci := 8) (v := .ref (mA 41)) (C := RX8) (T := TX8) (N := 44) hx hb hts inX8 hown hK hP 0 rfl rfl 41 (by decide) fl78 (fun _ h9 => h9) rfl dX8_cleared_65 ?_
                  refine lv_iload_n hx hb dX8_cleared_68 rfl (lv_at hl 2 rfl) ?_
                  refine va_iald hx hb hK hP 2 0 rfl rfl (by first | exact vp_in_range c_22 c_41 (by omega) (by decide) | exact absurd c_27 c_47 | exact absurd c_47 c_27) dX8_cleared_69 ?_
                  refine lv_goto (tgt := 93) hx hb dX8_cleared_70 (by decide) ?_
                  exact ret (fcH (ix k)) () _ _ _ _ dX8_cleared_93 (by have hx3 : ¬ (¬ x = 0 ∧ ¬ x = 1 ∧ ¬ x = 2 ∧ ¬ x = 3) := x3_of c_13 c_18; unfold tellC; grind) (hP) (hD) hS
              · skip
                refine lv_aload_n hx hb dX8_cleared_50 rfl (lv_at hl 0 rfl) ?_
                refine va_get (D := D) (ci := 8) (v := .ref (mA 40)) (C := RX8) (T := TX8) (N := 44) hx hb hts inX8 hown hK hP 0 rfl rfl 40 (by decide) fl75 (fun _ h9 => h9) rfl dX8_cleared_51 ?_
                refine lv_iload_n hx hb dX8_cleared_54 rfl (lv_at hl 2 rfl) ?_
                refine va_iald hx hb hK hP 1 0 rfl rfl (by first | exact vp_in_range c_22 c_41 (by omega) (by decide) | exact absurd c_27 c_47 | exact absurd c_47 c_27) dX8_cleared_55 ?_
                refine lv_goto (tgt := 93) hx hb dX8_cleared_56 (by decide) ?_
                exact ret (fcP (ix k)) () _ _ _ _ dX8_cleared_93 (by have hx3 : ¬ (¬ x = 0 ∧ ¬ x = 1 ∧ ¬ x = 2 ∧ ¬ x = 3) := x3_of c_13 c_18; unfold tellC; grind) (hP) (hD) hS
            · skip
              refine lv_iconst (v := (-1)) hx hb dX8_cleared_44 (by decide) ?_
              exact ret (-1) () _ _ _ _ dX8_cleared_45 (by unfold tellC; grind) (hP) (hD) hS
abbrev r_c_X8_count : Room := { frames := 0, cells := 0, slots := 0, locals := 0 }
set_option maxHeartbeats 4000000 in
set_option maxRecDepth 100000 in
theorem c_X8_count (l : Launch) (D : va_G) (cI cZ : ClassId) (aM : Nat) (mA : Nat → Nat) (nt : Nat) (th : Int32) (td : Int32) (nm : Nat) (np : Nat) (isd : Int32) (ln : Int32) (rf : Int32) (rp : Int32) (sz : Int32) (nx : Int32) (kd : Int32) (wh : Int32) (pl : Int32) (rd : Int32) (rn : Int32) (ic : Int32) (mcm : Int32) (mcp : Int32) (mcr : Int32) (fLF : Nat → Int32) (fPU : Nat → Int32) (x : Int32) (hnm : nm ≤ 10) (hnp : np ≤ 40) : MI l yX8_count wsX8_count r_c_X8_count D cI cZ [.ref aM, .int x] [mo aM mA (nI nt) th td (nI nm) (nI np) isd ln rf rp sz nx kd wh pl rd rn ic mcm mcp mcr, ar cI (mA 14) 40 fLF, ar cI (mA 5) 10 fPU] (fun (r : Int32) (u : Unit) => r = countS np nm td (if ic = 0 then -1 else mcr) fLF fPU isd ln x) (fun (u : Unit) => [mo aM mA (nI nt) 0 td (nI nm) (nI np) isd ln rf rp sz nx kd wh pl rd rn ic mcm mcp mcr, ar cI (mA 14) 40 fLF, ar cI (mA 5) 10 fPU]) 0 0 := by
  refine MI.of (cc := cX8_count) (maxL := 4) (by decide) rfl (Nat.le_of_ble_eq_true rfl) ?_
  intro p e s m below meth c A Q hx hb hml hown hts hN hK hA ret hP hD hS ls hl
  have hown : s.vm.findClass RX8 = some m.cls := hown
  have inX8 : ∀ w ∈ wsX80, w ∈ wsX8_count := by decide +kernel
  have fl13 := hts (.fieldLink RX8 13 "AdvanceBookModel" "purse" "[I") (by decide +kernel)
  have fl37 := hts (.fieldLink RX8 37 "AdvanceBookModel" "left" "[I") (by decide +kernel)
  have fl87 := hts (.fieldLink RX8 87 "AdvanceBookModel" "thrown" "I") (by decide +kernel)
  have fl94 := hts (.fieldLink RX8 94 "AdvanceBookModel" "men" "I") (by decide +kernel)
  have fl101 := hts (.fieldLink RX8 101 "AdvanceBookModel" "papers" "I") (by decide +kernel)
  have fl104 := hts (.fieldLink RX8 104 "AdvanceBookModel" "today" "I") (by decide +kernel)
  have fl160 := hts (.fieldLink RX8 160 "AdvanceBookModel" "isDecree" "Z") (by decide +kernel)
  have fl164 := hts (.fieldLink RX8 164 "AdvanceBookModel" "lines" "I") (by decide +kernel)
  have fl186 := hts (.fieldLink RX8 186 "AdvanceBookModel" "isCleared" "Z") (by decide +kernel)
  have fl195 := hts (.fieldLink RX8 195 "AdvanceBookModel" "cRounds" "I") (by decide +kernel)
  have hP : va_P D vwCl [mo aM mA (nI nt) th td (nI nm) (nI np) isd ln rf rp sz nx kd wh pl rd rn ic mcm mcp mcr, ar cI (mA 14) 40 fLF, ar cI (mA 5) 10 fPU] s.heap := hP
  have hD : va_D A [mo aM mA (nI nt) th td (nI nm) (nI np) isd ln rf rp sz nx kd wh pl rd rn ic mcm mcp mcr, ar cI (mA 14) 40 fLF, ar cI (mA 5) 10 fPU] := hD
  have hl : lv_has ls 4 [(0, .ref aM), (1, .int x)] := hl
  refine lv_aload_n hx hb dX8_count_0 rfl (lv_at hl 0 rfl) ?_
  refine lv_iconst (v := 0) hx hb dX8_count_1 (by decide) ?_
  refine va_put (D := D) (ci := 8) (v := .int 0) (ty := .int) (C := RX8) (T := TX8) (N := 44) hx hb hts inX8 tyX8 tyX8_ok nmX8 hown hK hP hD hS 0 rfl rfl 2 (by decide) fl87 (fun _ h9 => h9) rfl (by decide +kernel) (rfl) (rfl) (Nat.le_of_ble_eq_true rfl) dX8_count_2 (fun H locs hP hD hS => ?_)
  have hP : va_P D vwCl [mo aM mA (nI nt) 0 td (nI nm) (nI np) isd ln rf rp sz nx kd wh pl rd rn ic mcm mcp mcr, ar cI (mA 14) 40 fLF, ar cI (mA 5) 10 fPU] H := hP
  have hD : va_D A [mo aM mA (nI nt) 0 td (nI nm) (nI np) isd ln rf rp sz nx kd wh pl rd rn ic mcm mcp mcr, ar cI (mA 14) 40 fLF, ar cI (mA 5) 10 fPU] := hD
  refine lv_iconst (v := 0) hx hb dX8_count_5 (by decide) ?_
  refine lv_istore_n (lv' := [(2, .int 0), (0, .ref aM), (1, .int x)]) hx hb dX8_count_6 rfl hl (by decide) rfl (fun ls hl => ?_)
  refine lv_iload_n hx hb dX8_count_7 rfl (lv_at hl 2 rfl) ?_
  by_cases e8_0 : x = 0
  · refine lv_tableIn (tgt := 52) hx hb dX8_count_8 (by rw [e8_0]; decide) (by rw [e8_0]; decide) (by rw [e8_0]; rfl) (by decide) ?_
    refine lv_aload_n hx hb dX8_count_52 rfl (lv_at hl 1 rfl) ?_
    refine va_get (D := D) (ci := 8) (v := .int (nI nm)) (C := RX8) (T := TX8) (N := 44) hx hb hts inX8 hown hK hP 0 rfl rfl 4 (by decide) fl94 (fun _ h9 => h9) rfl dX8_count_53 ?_
    exact ret (nI nm) () _ _ _ _ dX8_count_56 (by unfold countS; simp [*]) (hP) (hD) hS
  by_cases e8_1 : x = 1
  · refine lv_tableIn (tgt := 57) hx hb dX8_count_8 (by rw [e8_1]; decide) (by rw [e8_1]; decide) (by rw [e8_1]; rfl) (by decide) ?_
    refine lv_aload_n hx hb dX8_count_57 rfl (lv_at hl 1 rfl) ?_
    refine va_get (D := D) (ci := 8) (v := .int (nI np)) (C := RX8) (T := TX8) (N := 44) hx hb hts inX8 hown hK hP 0 rfl rfl 6 (by decide) fl101 (fun _ h9 => h9) rfl dX8_count_58 ?_
    exact ret (nI np) () _ _ _ _ dX8_count_61 (by unfold countS; simp [*]) (hP) (hD) hS
  by_cases e8_2 : x = 2
  · refine lv_tableIn (tgt := 62) hx hb dX8_count_8 (by rw [e8_2]; decide) (by rw [e8_2]; decide) (by rw [e8_2]; rfl) (by decide) ?_
    refine lv_aload_n hx hb dX8_count_62 rfl (lv_at hl 1 rfl) ?_
    refine va_get (D := D) (ci := 8) (v := .int td) (C := RX8) (T := TX8) (N := 44) hx hb hts inX8 hown hK hP 0 rfl rfl 3 (by decide) fl104 (fun _ h9 => h9) rfl dX8_count_63 ?_
    exact ret td () _ _ _ _ dX8_count_66 (by unfold countS; simp [*]) (hP) (hD) hS
  by_cases e8_3 : x = 3
  · refine lv_tableIn (tgt := 67) hx hb dX8_count_8 (by rw [e8_3]; decide) (by rw [e8_3]; decide) (by rw [e8_3]; rfl) (by decide) ?_
    refine lv_iconst (v := 0) hx hb dX8_count_67 (by decide) ?_
    refine lv_istore_n (lv' := [(3, .int 0), (2, .int 0), (0, .ref aM), (1, .int x)]) hx hb dX8_count_68 rfl hl (by decide) rfl (fun ls hl => ?_)
    have L_69 : ∀ (n_69 : Nat) (j : Nat) (sm : Int32), (np - j < n_69) → (j ≤ np) → (sm = sumS fLF j) → ∀ (H : Heap) (locs : List Loc), va_P D vwCl [mo aM mA (nI nt) 0 td (nI nm) (nI np) isd ln rf rp sz nx kd wh pl rd rn ic mcm mcp mcr, ar cI (mA 14) 40 fLF, ar cI (mA 5) 10 fPU] H → va_D A [mo aM mA (nI nt) 0 td (nI nm) (nI np) isd ln rf rp sz nx kd wh pl rd rn ic mcm mcp mcr, ar cI (mA 14) 40 fLF, ar cI (mA 5) 10 fPU] → va_S A s.heap H locs → ∀ ls : Array Slot, lv_has ls 4 [(0, .ref aM), (1, .int x), (2, .int sm), (3, .int (nI j))] → W p l e r_c_X8_count s m (([.ref aM, .int x] : List Value).toArray) below meth c H locs 0 0 Q (F0 m 69 ls []) := by
      intro n_69
      induction n_69 with
      | zero => intro j sm hfu; exact absurd hfu (Nat.not_lt_zero _)
      | succ n_69 ih_69 =>
        intro j sm hfu_69 hj hs H locs hP hD hS ls hl
        refine lv_iload_n hx hb dX8_count_69 rfl (lv_at hl 3 rfl) ?_
        refine lv_aload_n hx hb dX8_count_70 rfl (lv_at hl 0 rfl) ?_
        refine va_get (D := D) (ci := 8) (v := .int (nI np)) (C := RX8) (T := TX8) (N := 44) hx hb hts inX8 hown hK hP 0 rfl rfl 6 (by decide) fl101 (fun _ h9 => h9) rfl dX8_count_71 ?_
        refine lv_icmp_ge (tgt := 92) hx hb dX8_count_74 (by decide) (fun c_74 => ?_) (fun c_74 => ?_)
        · skip
          have k_74 : np ≤ j := (nI_leI (a := np) (b := j) (by omega) (by omega)).mp c_74
          refine lv_iload_n hx hb dX8_count_92 rfl (lv_at hl 2 rfl) ?_
          exact ret sm () _ _ _ _ dX8_count_93 (by have e : j = np := (by omega); subst e; unfold countS; simp [*]) (hP) (hD) hS
        · skip
          have k_74 : ¬ np ≤ j := fun h9 => c_74 ((nI_leI (a := np) (b := j) (by omega) (by omega)).mpr h9)
          refine lv_iload_n hx hb dX8_count_77 rfl (lv_at hl 2 rfl) ?_
          refine lv_aload_n hx hb dX8_count_78 rfl (lv_at hl 0 rfl) ?_
          refine va_get (D := D) (ci := 8) (v := .ref (mA 14)) (C := RX8) (T := TX8) (N := 44) hx hb hts inX8 hown hK hP 0 rfl rfl 14 (by decide) fl37 (fun _ h9 => h9) rfl dX8_count_79 ?_
          refine lv_iload_n hx hb dX8_count_82 rfl (lv_at hl 3 rfl) ?_
          refine m_iald (k := j) hx hb hK hP 1 0 rfl rfl (by omega) (by decide) dX8_count_83 ?_
          refine lv_iadd hx hb dX8_count_84 ?_
          refine lv_istore_n (lv' := [(2, .int (sm + (fLF j))), (0, .ref aM), (1, .int x), (3, .int (nI j))]) hx hb dX8_count_85 rfl hl (by decide) rfl (fun ls hl => ?_)
          refine lv_iinc (v := (nI (j + 1))) (lv' := [(3, .int (nI (j + 1))), (2, .int (sm + (fLF j))), (0, .ref aM), (1, .int x)]) hx hb dX8_count_86 hl (k := 3) rfl (nI_inc j 1 (by decide)) (by decide) rfl (fun ls hl => ?_)
          refine lv_goto (tgt := 69) hx hb dX8_count_89 (by decide) ?_
          exact ih_69 (j + 1) (sm + (fLF j)) (by omega) (by omega) (by rw [hs]; rfl) _ _ (hP) (hD) hS ls (lv_sub hl [2, 3, 1, 0] rfl)
    exact L_69 ((np - 0) + 1) 0 0 (Nat.lt_succ_self _) (by omega) (rfl) _ _ (hP) (hD) hS ls (lv_sub hl [2, 3, 1, 0] rfl)
  by_cases e8_4 : x = 4
  · refine lv_tableIn (tgt := 94) hx hb dX8_count_8 (by rw [e8_4]; decide) (by rw [e8_4]; decide) (by rw [e8_4]; rfl) (by decide) ?_
    refine lv_iconst (v := 0) hx hb dX8_count_94 (by decide) ?_
    refine lv_istore_n (lv' := [(3, .int 0), (2, .int 0), (0, .ref aM), (1, .int x)]) hx hb dX8_count_95 rfl hl (by decide) rfl (fun ls hl => ?_)
    have L_96 : ∀ (n_96 : Nat) (j : Nat) (sm : Int32), (nm - j < n_96) → (j ≤ nm) → (sm = sumS fPU j) → ∀ (H : Heap) (locs : List Loc), va_P D vwCl [mo aM mA (nI nt) 0 td (nI nm) (nI np) isd ln rf rp sz nx kd wh pl rd rn ic mcm mcp mcr, ar cI (mA 14) 40 fLF, ar cI (mA 5) 10 fPU] H → va_D A [mo aM mA (nI nt) 0 td (nI nm) (nI np) isd ln rf rp sz nx kd wh pl rd rn ic mcm mcp mcr, ar cI (mA 14) 40 fLF, ar cI (mA 5) 10 fPU] → va_S A s.heap H locs → ∀ ls : Array Slot, lv_has ls 4 [(0, .ref aM), (1, .int x), (2, .int sm), (3, .int (nI j))] → W p l e r_c_X8_count s m (([.ref aM, .int x] : List Value).toArray) below meth c H locs 0 0 Q (F0 m 96 ls []) := by
      intro n_96
      induction n_96 with
      | zero => intro j sm hfu; exact absurd hfu (Nat.not_lt_zero _)
      | succ n_96 ih_96 =>
        intro j sm hfu_96 hj hs H locs hP hD hS ls hl
        refine lv_iload_n hx hb dX8_count_96 rfl (lv_at hl 3 rfl) ?_
        refine lv_aload_n hx hb dX8_count_97 rfl (lv_at hl 0 rfl) ?_
        refine va_get (D := D) (ci := 8) (v := .int (nI nm)) (C := RX8) (T := TX8) (N := 44) hx hb hts inX8 hown hK hP 0 rfl rfl 4 (by decide) fl94 (fun _ h9 => h9) rfl dX8_count_98 ?_
        refine lv_icmp_ge (tgt := 119) hx hb dX8_count_101 (by decide) (fun c_101 => ?_) (fun c_101 => ?_)
        · skip
          have k_101 : nm ≤ j := (nI_leI (a := nm) (b := j) (by omega) (by omega)).mp c_101
          refine lv_iload_n hx hb dX8_count_119 rfl (lv_at hl 2 rfl) ?_
          exact ret sm () _ _ _ _ dX8_count_120 (by have e : j = nm := (by omega); subst e; unfold countS; simp [*]) (hP) (hD) hS
        · skip
          have k_101 : ¬ nm ≤ j := fun h9 => c_101 ((nI_leI (a := nm) (b := j) (by omega) (by omega)).mpr h9)
          refine lv_iload_n hx hb dX8_count_104 rfl (lv_at hl 2 rfl) ?_
          refine lv_aload_n hx hb dX8_count_105 rfl (lv_at hl 0 rfl) ?_
          refine va_get (D := D) (ci := 8) (v := .ref (mA 5)) (C := RX8) (T := TX8) (N := 44) hx hb hts inX8 hown hK hP 0 rfl rfl 5 (by decide) fl13 (fun _ h9 => h9) rfl dX8_count_106 ?_
          refine lv_iload_n hx hb dX8_count_109 rfl (lv_at hl 3 rfl) ?_
          refine m_iald (k := j) hx hb hK hP 2 0 rfl rfl (by omega) (by decide) dX8_count_110 ?_
          refine lv_iadd hx hb dX8_count_111 ?_
          refine lv_istore_n (lv' := [(2, .int (sm + (fPU j))), (0, .ref aM), (1, .int x), (3, .int (nI j))]) hx hb dX8_count_112 rfl hl (by decide) rfl (fun ls hl => ?_)
          refine lv_iinc (v := (nI (j + 1))) (lv' := [(3, .int (nI (j + 1))), (2, .int (sm + (fPU j))), (0, .ref aM), (1, .int x)]) hx hb dX8_count_113 hl (k := 3) rfl (nI_inc j 1 (by decide)) (by decide) rfl (fun ls hl => ?_)
          refine lv_goto (tgt := 96) hx hb dX8_count_116 (by decide) ?_
          exact ih_96 (j + 1) (sm + (fPU j)) (by omega) (by omega) (by rw [hs]; rfl) _ _ (hP) (hD) hS ls (lv_sub hl [2, 3, 1, 0] rfl)
    exact L_96 ((nm - 0) + 1) 0 0 (Nat.lt_succ_self _) (by omega) (rfl) _ _ (hP) (hD) hS ls (lv_sub hl [2, 3, 1, 0] rfl)
  by_cases e8_5 : x = 5
  · refine lv_tableIn (tgt := 121) hx hb dX8_count_8 (by rw [e8_5]; decide) (by rw [e8_5]; decide) (by rw [e8_5]; rfl) (by decide) ?_
    refine lv_aload_n hx hb dX8_count_121 rfl (lv_at hl 1 rfl) ?_
    refine va_get (D := D) (ci := 8) (v := .int ic) (C := RX8) (T := TX8) (N := 44) hx hb hts inX8 hown hK hP 0 rfl rfl 36 (by decide) fl186 (fun _ h9 => h9) rfl dX8_count_122 ?_
    refine lv_if_eq (tgt := 135) hx hb dX8_count_125 (by decide) (fun c_125 => ?_) (fun c_125 => ?_)
    · skip
      refine lv_iconst (v := (-1)) hx hb dX8_count_135 (by decide) ?_
      exact ret (-1) () _ _ _ _ dX8_count_136 (by unfold countS; simp [*]) (hP) (hD) hS
    · skip
      refine lv_aload_n hx hb dX8_count_128 rfl (lv_at hl 1 rfl) ?_
      refine va_get (D := D) (ci := 8) (v := .int mcr) (C := RX8) (T := TX8) (N := 44) hx hb hts inX8 hown hK hP 0 rfl rfl 39 (by decide) fl195 (fun _ h9 => h9) rfl dX8_count_129 ?_
      refine lv_goto (tgt := 136) hx hb dX8_count_132 (by decide) ?_
      exact ret mcr () _ _ _ _ dX8_count_136 (by unfold countS; simp [*]) (hP) (hD) hS
  by_cases e8_6 : x = 6
  · refine lv_tableIn (tgt := 137) hx hb dX8_count_8 (by rw [e8_6]; decide) (by rw [e8_6]; decide) (by rw [e8_6]; rfl) (by decide) ?_
    refine lv_aload_n hx hb dX8_count_137 rfl (lv_at hl 1 rfl) ?_
    refine va_get (D := D) (ci := 8) (v := .int isd) (C := RX8) (T := TX8) (N := 44) hx hb hts inX8 hown hK hP 0 rfl rfl 17 (by decide) fl160 (fun _ h9 => h9) rfl dX8_count_138 ?_
    refine lv_if_eq (tgt := 151) hx hb dX8_count_141 (by decide) (fun c_141 => ?_) (fun c_141 => ?_)
    · skip
      refine lv_iconst (v := (-1)) hx hb dX8_count_151 (by decide) ?_
      exact ret (-1) () _ _ _ _ dX8_count_152 (by unfold countS; simp [*]) (hP) (hD) hS
    · skip
      refine lv_aload_n hx hb dX8_count_144 rfl (lv_at hl 1 rfl) ?_
      refine va_get (D := D) (ci := 8) (v := .int ln) (C := RX8) (T := TX8) (N := 44) hx hb hts inX8 hown hK hP 0 rfl rfl 18 (by decide) fl164 (fun _ h9 => h9) rfl dX8_count_145 ?_
      refine lv_goto (tgt := 152) hx hb dX8_count_148 (by decide) ?_
      exact ret ln () _ _ _ _ dX8_count_152 (by unfold countS; simp [*]) (hP) (hD) hS
  refine lv_tableOut (tgt := 153) hx hb dX8_count_8 (by have t0 := sw_ne (z := 0) (by decide) e8_0; have t1 := sw_ne (z := 1) (by decide) e8_1; have t2 := sw_ne (z := 2) (by decide) e8_2; have t3 := sw_ne (z := 3) (by decide) e8_3; have t4 := sw_ne (z := 4) (by decide) e8_4; have t5 := sw_ne (z := 5) (by decide) e8_5; have t6 := sw_ne (z := 6) (by decide) e8_6; omega) (by decide) ?_
  refine lv_iconst (v := (-1)) hx hb dX8_count_153 (by decide) ?_
  exact ret (-1) () _ _ _ _ dX8_count_154 (by unfold countS; simp [*]) (hP) (hD) hS
