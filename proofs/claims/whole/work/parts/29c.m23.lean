abbrev r_c_X8_fault : Room := { frames := 0, cells := 0, slots := 0, locals := 0 }
set_option maxHeartbeats 4000000 in
set_option maxRecDepth 100000 in
theorem c_X8_fault (l : Launch) (D : va_G) (cI cZ : ClassId) (aM : Nat) (mA : Nat → Nat) (nt : Nat) (th : Int32) (td : Int32) (nm : Nat) (np : Nat) (isd : Int32) (ln : Int32) (rf : Int32) (rp : Int32) (sz : Int32) (nx : Int32) (kd : Int32) (wh : Int32) (pl : Int32) (rd : Int32) (rn : Int32) (ic : Int32) (mcm : Int32) (mcp : Int32) (mcr : Int32) (x : Int32)  : MI l yX8_fault wsX8_fault r_c_X8_fault D cI cZ [.ref aM, .int x] [mo aM mA (nI nt) th td (nI nm) (nI np) isd ln rf rp sz nx kd wh pl rd rn ic mcm mcp mcr] (fun (r : Int32) (u : Unit) => r = if x = 0 then rf else if x = 1 then rp else -1) (fun (u : Unit) => [mo aM mA (nI nt) 0 td (nI nm) (nI np) isd ln rf rp sz nx kd wh pl rd rn ic mcm mcp mcr]) 0 0 := by
  refine MI.of (cc := cX8_fault) (maxL := 2) (by decide) rfl (Nat.le_of_ble_eq_true rfl) ?_
  intro p e s m below meth c A Q hx hb hml hown hts hN hK hA ret hP hD hS ls hl
  have hown : s.vm.findClass RX8 = some m.cls := hown
  have inX8 : ∀ w ∈ wsX80, w ∈ wsX8_fault := by decide +kernel
  have fl50 := hts (.fieldLink RX8 50 "AdvanceBookModel" "faultPlace" "I") (by decide +kernel)
  have fl87 := hts (.fieldLink RX8 87 "AdvanceBookModel" "thrown" "I") (by decide +kernel)
  have fl115 := hts (.fieldLink RX8 115 "AdvanceBookModel" "fault" "I") (by decide +kernel)
  have hP : va_P D vwCl [mo aM mA (nI nt) th td (nI nm) (nI np) isd ln rf rp sz nx kd wh pl rd rn ic mcm mcp mcr] s.heap := hP
  have hD : va_D A [mo aM mA (nI nt) th td (nI nm) (nI np) isd ln rf rp sz nx kd wh pl rd rn ic mcm mcp mcr] := hD
  have hl : lv_has ls 2 [(0, .ref aM), (1, .int x)] := hl
  refine lv_aload_n hx hb dX8_fault_0 rfl (lv_at hl 0 rfl) ?_
  refine lv_iconst (v := 0) hx hb dX8_fault_1 (by decide) ?_
  refine va_put (D := D) (ci := 8) (v := .int 0) (ty := .int) (C := RX8) (T := TX8) (N := 44) hx hb hts inX8 tyX8 tyX8_ok nmX8 hown hK hP hD hS 0 rfl rfl 2 (by decide) fl87 (fun _ h9 => h9) rfl (by decide +kernel) (rfl) (rfl) (Nat.le_of_ble_eq_true rfl) dX8_fault_2 (fun H locs hP hD hS => ?_)
  have hP : va_P D vwCl [mo aM mA (nI nt) 0 td (nI nm) (nI np) isd ln rf rp sz nx kd wh pl rd rn ic mcm mcp mcr] H := hP
  have hD : va_D A [mo aM mA (nI nt) 0 td (nI nm) (nI np) isd ln rf rp sz nx kd wh pl rd rn ic mcm mcp mcr] := hD
  refine lv_iload_n hx hb dX8_fault_5 rfl (lv_at hl 1 rfl) ?_
  refine lv_if_ne (tgt := 16) hx hb dX8_fault_6 (by decide) (fun c_6 => ?_) (fun c_6 => ?_)
  · skip
    refine lv_iload_n hx hb dX8_fault_16 rfl (lv_at hl 1 rfl) ?_
    refine lv_iconst (v := 1) hx hb dX8_fault_17 (by decide) ?_
    refine lv_icmp_ne (tgt := 28) hx hb dX8_fault_18 (by decide) (fun c_18 => ?_) (fun c_18 => ?_)
    · skip
      refine lv_iconst (v := (-1)) hx hb dX8_fault_28 (by decide) ?_
      exact ret (-1) () _ _ _ _ dX8_fault_29 (by grind) (hP) (hD) hS
    · skip
      refine lv_aload_n hx hb dX8_fault_21 rfl (lv_at hl 0 rfl) ?_
      refine va_get (D := D) (ci := 8) (v := .int rp) (C := RX8) (T := TX8) (N := 44) hx hb hts inX8 hown hK hP 0 rfl rfl 21 (by decide) fl50 (fun _ h9 => h9) rfl dX8_fault_22 ?_
      refine lv_goto (tgt := 29) hx hb dX8_fault_25 (by decide) ?_
      exact ret rp () _ _ _ _ dX8_fault_29 (by grind) (hP) (hD) hS
  · skip
    refine lv_aload_n hx hb dX8_fault_9 rfl (lv_at hl 0 rfl) ?_
    refine va_get (D := D) (ci := 8) (v := .int rf) (C := RX8) (T := TX8) (N := 44) hx hb hts inX8 hown hK hP 0 rfl rfl 20 (by decide) fl115 (fun _ h9 => h9) rfl dX8_fault_10 ?_
    refine lv_goto (tgt := 29) hx hb dX8_fault_13 (by decide) ?_
    exact ret rf () _ _ _ _ dX8_fault_29 (by grind) (hP) (hD) hS
theorem sumS_congr {f g : Nat → Int32} : ∀ {n : Nat}, (∀ k, k < n → f k = g k) → sumS f n = sumS g n
  | 0, _ => rfl
  | n + 1, h => by simp only [sumS]; rw [sumS_congr (fun k hk => h k (by omega)), h n (by omega)]
theorem tie_feed {fBY : Nat → Int32} {nt : Nat} {a1 : Int32} {a2 : Int32} {a3 : Int32} {a4 : Int32} {a5 : Int32} {n2 : Nat} {g : Nat → Int32} {r : Int32} {n2' : Nat} {g' : Nat → Int32} {r' : Int32} (hnt : nt ≤ 300) (h7 : (nt + 20 ≤ 300 ∧ r = nI (nt + 20) ∧ n2 = nt + 20 ∧ g = put20 fBY nt a1 a2 a3 a4 a5) ∨ (¬ nt + 20 ≤ 300 ∧ r = -1 ∧ n2 = nt ∧ g = fBY)) (h8 : (nt + 20 ≤ 300 ∧ r' = nI (nt + 20) ∧ n2' = nt + 20 ∧ g' = put20 fBY nt a1 a2 a3 a4 a5) ∨ (¬ nt + 20 ≤ 300 ∧ r' = -1 ∧ n2' = nt ∧ g' = fBY)) : r' = r ∧ n2' = n2 ∧ g' = g ∧ n2 ≤ 300 := by
  rcases h7 with ⟨a1, rfl, rfl, rfl⟩ | ⟨b, rfl, rfl, rfl⟩
  · rcases h8 with ⟨-, rfl, rfl, rfl⟩ | ⟨b, -⟩
    · exact ⟨rfl, rfl, rfl, a1⟩
    · exact absurd a1 b
  · rcases h8 with ⟨a1, -⟩ | ⟨-, rfl, rfl, rfl⟩
    · exact absurd a1 b
    · exact ⟨rfl, rfl, rfl, hnt⟩
theorem tie_man {fPU : Nat → Int32} {nm : Nat} {x : Int32} {n2 : Nat} {g : Nat → Int32} {r : Int32} {np : Nat} {n2' : Nat} {g' : Nat → Int32} {r' : Int32} {j : Nat} {fDB : Nat → Int32} {fCR : Nat → Int32} {fRK : Nat → Int32} {fLF : Nat → Int32} (h : PInv np nm fDB fCR fRK fLF fPU j) (h7 : (0 ≤ x ∧ x ≤ 99999 ∧ nm < 10 ∧ r = nI nm ∧ n2 = nm + 1 ∧ g = upd fPU nm x) ∨ (¬ (0 ≤ x ∧ x ≤ 99999 ∧ nm < 10) ∧ r = -1 ∧ n2 = nm ∧ g = fPU)) (h8 : (0 ≤ x ∧ x ≤ 99999 ∧ nm < 10 ∧ r' = nI nm ∧ n2' = nm + 1 ∧ g' = upd fPU nm x) ∨ (¬ (0 ≤ x ∧ x ≤ 99999 ∧ nm < 10) ∧ r' = -1 ∧ n2' = nm ∧ g' = fPU)) : r' = r ∧ n2' = n2 ∧ g' = g ∧ PInv np n2 fDB fCR fRK fLF g (j + 1) := by
  rcases h7 with ⟨a1, a2, a3, rfl, rfl, rfl⟩ | ⟨b, rfl, rfl, rfl⟩
  · rcases h8 with ⟨-, -, -, rfl, rfl, rfl⟩ | ⟨b, -⟩
    · exact ⟨rfl, rfl, rfl, h.man a1 a2 a3⟩
    · exact absurd ⟨a1, a2, a3⟩ b
  · rcases h8 with ⟨a1, a2, a3, -⟩ | ⟨-, rfl, rfl, rfl⟩
    · exact absurd ⟨a1, a2, a3⟩ b
    · exact ⟨rfl, rfl, rfl, h.up⟩
theorem tie_paper {fTD : Nat → Int32} {fTC : Nat → Int32} {fTK : Nat → Int32} {fTR : Nat → Int32} {fDY : Nat → Int32} {fCP : Nat → Int32} {fDB : Nat → Int32} {fCR : Nat → Int32} {fRK : Nat → Int32} {fLF : Nat → Int32} {nm : Nat} {td : Int32} {np : Nat} {a : Int32} {b : Int32} {x : Int32} {z : Int32} {gTD : Nat → Int32} {gTC : Nat → Int32} {gTK : Nat → Int32} {gTR : Nat → Int32} {gDY : Nat → Int32} {gCP : Nat → Int32} {gDB : Nat → Int32} {gCR : Nat → Int32} {gRK : Nat → Int32} {gLF : Nat → Int32} {n2 : Nat} {r : Int32} {gTD' : Nat → Int32} {gTC' : Nat → Int32} {gTK' : Nat → Int32} {gTR' : Nat → Int32} {gDY' : Nat → Int32} {gCP' : Nat → Int32} {gDB' : Nat → Int32} {gCR' : Nat → Int32} {gRK' : Nat → Int32} {gLF' : Nat → Int32} {n2' : Nat} {r' : Int32} {j : Nat} {fPU : Nat → Int32} (h : PInv np nm fDB fCR fRK fLF fPU j) (h7 : (((0 ≤ a ∧ a < nI nm) ∧ (0 ≤ b ∧ b < nI nm) ∧ ¬ a = b ∧ 1 ≤ x ∧ x ≤ 999 ∧ 0 ≤ z ∧ z < 4) ∧ np < 40 ∧ r = nI np ∧ n2 = np + 1 ∧ gTD = upd fTD np a ∧ gTC = upd fTC np b ∧ gTK = upd fTK np x ∧ gTR = upd fTR np z ∧ gDY = upd fDY np td ∧ gCP = upd fCP np (if told fTD fTC fTK fTR fDY a b x z td np = true then 1 else 0) ∧ gDB = upd fDB np a ∧ gCR = upd fCR np b ∧ gRK = upd fRK np z ∧ gLF = upd fLF np (if told fTD fTC fTK fTR fDY a b x z td np = true then 0 else x)) ∨ (¬ (((0 ≤ a ∧ a < nI nm) ∧ (0 ≤ b ∧ b < nI nm) ∧ ¬ a = b ∧ 1 ≤ x ∧ x ≤ 999 ∧ 0 ≤ z ∧ z < 4) ∧ np < 40) ∧ r = -1 ∧ n2 = np ∧ gTD = fTD ∧ gTC = fTC ∧ gTK = fTK ∧ gTR = fTR ∧ gDY = fDY ∧ gCP = fCP ∧ gDB = fDB ∧ gCR = fCR ∧ gRK = fRK ∧ gLF = fLF)) (h8 : (((0 ≤ a ∧ a < nI nm) ∧ (0 ≤ b ∧ b < nI nm) ∧ ¬ a = b ∧ 1 ≤ x ∧ x ≤ 999 ∧ 0 ≤ z ∧ z < 4) ∧ np < 40 ∧ r' = nI np ∧ n2' = np + 1 ∧ gTD' = upd fTD np a ∧ gTC' = upd fTC np b ∧ gTK' = upd fTK np x ∧ gTR' = upd fTR np z ∧ gDY' = upd fDY np td ∧ gCP' = upd fCP np (if told fTD fTC fTK fTR fDY a b x z td np = true then 1 else 0) ∧ gDB' = upd fDB np a ∧ gCR' = upd fCR np b ∧ gRK' = upd fRK np z ∧ gLF' = upd fLF np (if told fTD fTC fTK fTR fDY a b x z td np = true then 0 else x)) ∨ (¬ (((0 ≤ a ∧ a < nI nm) ∧ (0 ≤ b ∧ b < nI nm) ∧ ¬ a = b ∧ 1 ≤ x ∧ x ≤ 999 ∧ 0 ≤ z ∧ z < 4) ∧ np < 40) ∧ r' = -1 ∧ n2' = np ∧ gTD' = fTD ∧ gTC' = fTC ∧ gTK' = fTK ∧ gTR' = fTR ∧ gDY' = fDY ∧ gCP' = fCP ∧ gDB' = fDB ∧ gCR' = fCR ∧ gRK' = fRK ∧ gLF' = fLF)) : r' = r ∧ n2' = n2 ∧ gTD' = gTD ∧ gTC' = gTC ∧ gTK' = gTK ∧ gTR' = gTR ∧ gDY' = gDY ∧ gCP' = gCP ∧ gDB' = gDB ∧ gCR' = gCR ∧ gRK' = gRK ∧ gLF' = gLF ∧ PInv n2 nm gDB gCR gRK gLF fPU (j + 1) := by
  rcases h7 with ⟨a1, a2, rfl, rfl, rfl, rfl, rfl, rfl, rfl, rfl, rfl, rfl, rfl, rfl⟩ | ⟨b, rfl, rfl, rfl, rfl, rfl, rfl, rfl, rfl, rfl, rfl, rfl, rfl⟩
  · rcases h8 with ⟨-, -, rfl, rfl, rfl, rfl, rfl, rfl, rfl, rfl, rfl, rfl, rfl, rfl⟩ | ⟨b, -⟩
    · obtain ⟨ma, mb, mab, mx1, mx9, mz0, mz4⟩ := a1
      exact ⟨rfl, rfl, rfl, rfl, rfl, rfl, rfl, rfl, rfl, rfl, rfl, rfl, h.paper (x := x) ma mb mab mx1 mx9 mz0 mz4 a2 (by split <;> simp)⟩
    · exact absurd ⟨a1, a2⟩ b
  · rcases h8 with ⟨a1, a2, -⟩ | ⟨-, rfl, rfl, rfl, rfl, rfl, rfl, rfl, rfl, rfl, rfl, rfl, rfl⟩
    · exact absurd ⟨a1, a2⟩ b
    · exact ⟨rfl, rfl, rfl, rfl, rfl, rfl, rfl, rfl, rfl, rfl, rfl, rfl, h.up⟩
theorem tie_pass {td : Int32} {x : Int32} {t2 : Int32} {r : Int32} {t2' : Int32} {r' : Int32} (htd : 0 ≤ td ∧ td ≤ 999) (h7 : ((0 ≤ x ∧ x ≤ 999 - td) ∧ r = td + x ∧ t2 = td + x) ∨ (¬ (0 ≤ x ∧ x ≤ 999 - td) ∧ r = -1 ∧ t2 = td)) (h8 : ((0 ≤ x ∧ x ≤ 999 - td) ∧ r' = td + x ∧ t2' = td + x) ∨ (¬ (0 ≤ x ∧ x ≤ 999 - td) ∧ r' = -1 ∧ t2' = td)) : r' = r ∧ t2' = t2 ∧ 0 ≤ t2 ∧ t2 ≤ 999 := by
  rcases h7 with ⟨a1, rfl, rfl⟩ | ⟨b, rfl, rfl⟩
  · rcases h8 with ⟨-, rfl, rfl⟩ | ⟨b, -⟩
    · refine ⟨rfl, rfl, ?_⟩
      have e9 : (999 : Int32).toInt = 999 := by decide
      obtain ⟨t1, t3⟩ := htd
      obtain ⟨x1, x2⟩ := a1
      rw [i32_le, ti0] at t1 x1
      rw [i32_le, e9] at t3
      rw [i32_le, i32_sub (by rw [e9]; omega) (by rw [e9]; omega), e9] at x2
      rw [i32_le, i32_le, ti0, e9, i32_add (by omega) (by omega)]
      omega
    · exact absurd a1 b
  · rcases h8 with ⟨a1, -⟩ | ⟨-, rfl, rfl⟩
    · exact absurd a1 b
    · exact ⟨rfl, rfl, htd⟩
theorem tie_purse {fPU : Nat → Int32} {nm : Nat} {x : Int32} {r : Int32} {r' : Int32} (h7 : r = if 0 ≤ x ∧ x < nI nm then fPU (ix x) else -1) (h8 : r' = if 0 ≤ x ∧ x < nI nm then fPU (ix x) else -1) : r' = r := by
  exact h8.trans h7.symm
theorem tie_net {fCR : Nat → Int32} {fLF : Nat → Int32} {fDB : Nat → Int32} {nm : Nat} {np : Nat} {x : Int32} {r : Int32} {r' : Int32} (h7 : r = if 0 ≤ x ∧ x < nI nm then netS fCR fDB fLF x np else -2147483648) (h8 : r' = if 0 ≤ x ∧ x < nI nm then netS fCR fDB fLF x np else -2147483648) : r' = r := by
  exact h8.trans h7.symm
theorem tie_thread {fCR : Nat → Int32} {fLF : Nat → Int32} {fDB : Nat → Int32} {nm : Nat} {np : Nat} {r : Int32} {r' : Int32} {j : Nat} {fRK : Nat → Int32} {fPU : Nat → Int32} (h : PInv np nm fDB fCR fRK fLF fPU j) (h7 : r = coinsL (movesL fCR fDB fLF np nm) ((movesL fCR fDB fLF np nm)).length) (h8 : r' = posS (netsF fCR fDB fLF np) nm) : r' = r := by
  obtain ⟨h1, h2, h3, h4, h5, h6, -, -⟩ := h
  rw [h7, h8, thread_tie h1 h2 h4 h3 h6]
theorem tie_move {fCR : Nat → Int32} {fLF : Nat → Int32} {fDB : Nat → Int32} {nm : Nat} {np : Nat} {k : Int32} {x : Int32} {r : Int32} {r' : Int32} (h7 : r = mvAns (movesL fCR fDB fLF np nm) k x) (h8 : r' = mvAns (movesL fCR fDB fLF np nm) k x) : r' = r := by
  exact h8.trans h7.symm
theorem tie_boat {fPU : Nat → Int32} {nm : Nat} {ga : Int32} {x : Int32} {y : Int32} {v : Nat} {g : Nat → Int32} {r : Int32} {np : Nat} {g' : Nat → Int32} {r' : Int32} {j : Nat} {fDB : Nat → Int32} {fCR : Nat → Int32} {fRK : Nat → Int32} {fLF : Nat → Int32} (h : PInv np nm fDB fCR fRK fLF fPU j) (hj : j ≤ 512) (h7 : ((0 ≤ ga ∧ ga ≤ 9999 ∧ (0 ≤ x ∧ x < nI nm) ∧ 1 ≤ y ∧ y ≤ 9 ∧ v < 2 ^ nm ∧ bt v (ix x) = 0) ∧ r = (ga / nI (ix y + cntB v 10)) ∧ g = upd (fil (shareS fPU v (ga / nI (ix y + cntB v 10))) fPU nm) (ix x) (fil (shareS fPU v (ga / nI (ix y + cntB v 10))) fPU nm (ix x) + (ga - (ga / nI (ix y + cntB v 10)) * nI (cntB v 10)))) ∨ (¬ (0 ≤ ga ∧ ga ≤ 9999 ∧ (0 ≤ x ∧ x < nI nm) ∧ 1 ≤ y ∧ y ≤ 9 ∧ v < 2 ^ nm ∧ bt v (ix x) = 0) ∧ r = -1 ∧ g = fPU)) (h8 : ((0 ≤ ga ∧ ga ≤ 9999 ∧ (0 ≤ x ∧ x < nI nm) ∧ 1 ≤ y ∧ y ≤ 9 ∧ v < 2 ^ nm ∧ bt v (ix x) = 0) ∧ r' = (ga / nI (ix y + cntB v 10)) ∧ g' = upd (fil (shareS fPU v (ga / nI (ix y + cntB v 10))) fPU nm) (ix x) (fil (shareS fPU v (ga / nI (ix y + cntB v 10))) fPU nm (ix x) + (ga - (ga / nI (ix y + cntB v 10)) * nI (cntB v 10)))) ∨ (¬ (0 ≤ ga ∧ ga ≤ 9999 ∧ (0 ≤ x ∧ x < nI nm) ∧ 1 ≤ y ∧ y ≤ 9 ∧ v < 2 ^ nm ∧ bt v (ix x) = 0) ∧ r' = -1 ∧ g' = fPU)) : r' = r ∧ g' = g ∧ PInv np nm fDB fCR fRK fLF g (j + 1) := by
  rcases h7 with ⟨a1, rfl, rfl⟩ | ⟨b, rfl, rfl⟩
  · rcases h8 with ⟨-, rfl, rfl⟩ | ⟨b, -⟩
    · exact ⟨rfl, rfl, h.boat hj a1⟩
    · exact absurd a1 b
  · rcases h8 with ⟨a1, -⟩ | ⟨-, rfl, rfl⟩
    · exact absurd a1 b
    · exact ⟨rfl, rfl, h.up⟩
theorem tie_heir {fPU : Nat → Int32} {fDB : Nat → Int32} {fCR : Nat → Int32} {fLF : Nat → Int32} {nm : Nat} {np : Nat} {x : Int32} {y : Int32} {gPU : Nat → Int32} {gDB : Nat → Int32} {gCR : Nat → Int32} {gLF : Nat → Int32} {r : Int32} {gPU' : Nat → Int32} {gDB' : Nat → Int32} {gCR' : Nat → Int32} {gLF' : Nat → Int32} {r' : Int32} {j : Nat} {fRK : Nat → Int32} (h : PInv np nm fDB fCR fRK fLF fPU j) (hj : j ≤ 512) (h7 : (((0 ≤ x ∧ x < nI nm) ∧ (0 ≤ y ∧ y < nI nm) ∧ ¬ x = y) ∧ r = 1 ∧ gPU = upd (upd fPU (ix y) (fPU (ix y) + fPU (ix x))) (ix x) 0 ∧ gDB = fil (rep x y fDB) fDB np ∧ gCR = fil (rep x y fCR) fCR np ∧ gLF = fil (repL x y fDB fCR fLF) fLF np) ∨ (¬ ((0 ≤ x ∧ x < nI nm) ∧ (0 ≤ y ∧ y < nI nm) ∧ ¬ x = y) ∧ r = 0 ∧ gPU = fPU ∧ gDB = fDB ∧ gCR = fCR ∧ gLF = fLF)) (h8 : (((0 ≤ x ∧ x < nI nm) ∧ (0 ≤ y ∧ y < nI nm) ∧ ¬ x = y) ∧ r' = 1 ∧ gPU' = upd (upd fPU (ix y) (fPU (ix y) + fPU (ix x))) (ix x) 0 ∧ gDB' = fil (rep x y fDB) fDB np ∧ gCR' = fil (rep x y fCR) fCR np ∧ gLF' = fil (repL x y fDB fCR fLF) fLF np) ∨ (¬ ((0 ≤ x ∧ x < nI nm) ∧ (0 ≤ y ∧ y < nI nm) ∧ ¬ x = y) ∧ r' = 0 ∧ gPU' = fPU ∧ gDB' = fDB ∧ gCR' = fCR ∧ gLF' = fLF)) : r' = r ∧ gPU' = gPU ∧ gDB' = gDB ∧ gCR' = gCR ∧ gLF' = gLF ∧ PInv np nm gDB gCR fRK gLF gPU (j + 1) := by
  rcases h7 with ⟨a1, rfl, rfl, rfl, rfl, rfl⟩ | ⟨b, rfl, rfl, rfl, rfl, rfl⟩
  · rcases h8 with ⟨-, rfl, rfl, rfl, rfl, rfl⟩ | ⟨b, -⟩
    · exact ⟨rfl, rfl, rfl, rfl, rfl, h.heir hj a1.1 a1.2.1 a1.2.2⟩
    · exact absurd a1 b
  · rcases h8 with ⟨a1, -⟩ | ⟨-, rfl, rfl, rfl, rfl, rfl⟩
    · exact absurd a1 b
    · exact ⟨rfl, rfl, rfl, rfl, rfl, h.up⟩
theorem tie_fault {rf : Int32} {rp : Int32} {x : Int32} {r : Int32} {r' : Int32} (h7 : r = if x = 0 then rf else if x = 1 then rp else -1) (h8 : r' = if x = 0 then rf else if x = 1 then rp else -1) : r' = r := by
  exact h8.trans h7.symm
theorem tie_decree {aD : Nat} {aD2 : Nat} {fBY : Nat → Int32} {nt : Nat} {rf : Int32} {rp : Int32} {isd : Int32} {x : Int32} {f2 : Int32} {p2 : Int32} {sp2 : Int32} {bf2 : Int32} {l2 : Int32} {i2 : Int32} {nt2 : Nat} {dA : Nat} {dB : Nat} {gCU : Nat → Int32} {gMV : Nat → Int32} {r : Int32} {ln : Int32} {fRU : Nat → Int32} {i2' : Int32} {l2' : Int32} {f2' : Int32} {p2' : Int32} {nt2' : Nat} {gRU' : Nat → Int32} {r' : Int32} {fCU : Nat → Int32} {fMV : Nat → Int32} {sp : Int32} {bf : Int32} (hnt : nt ≤ 300) (hd : DInv isd fRU fCU fMV sp bf) (h7 : ((x < 0 ∨ nI nt < x) ∧ r = -2 ∧ nt2 = nt ∧ f2 = rf ∧ p2 = rp ∧ i2 = isd ∧ dA = aD ∧ dB = aD2) ∨ (¬ (x < 0 ∨ nI nt < x) ∧ nt2 = 0 ∧ ∃ n X, n ≤ nt ∧ x = nI n ∧ Reads fBY n 0 ru0 0 X ∧ dcC (ruC gCU gMV sp2 bf2) aD aD2 dA dB isd i2 r f2 p2 l2 X)) (h8 : ((x < 0 ∨ nI nt < x) ∧ r' = -2 ∧ nt2' = nt ∧ i2' = isd ∧ l2' = ln ∧ f2' = rf ∧ p2' = rp ∧ gRU' = fRU) ∨ (¬ (x < 0 ∨ nI nt < x) ∧ nt2' = 0 ∧ ∃ n X, n ≤ nt ∧ x = nI n ∧ Reads fBY n 0 ru0 0 X ∧ txM fRU gRU' isd i2' ln l2' r' f2' p2' X)) : r' = r ∧ nt2' = nt2 ∧ f2' = f2 ∧ p2' = p2 ∧ i2' = i2 ∧ nt2 ≤ 300 ∧ ((dA = aD ∧ dB = aD2 ∧ l2' = ln ∧ DInv i2 gRU' fCU fMV sp bf) ∨ (dA = aD2 ∧ dB = aD ∧ l2' = l2 ∧ DInv i2 gRU' gCU gMV sp2 bf2)) := by
  rcases h7 with ⟨a1, rfl, rfl, rfl, rfl, rfl, rfl, rfl⟩ | ⟨b, rfl, n, X, hn, hx, hR, hX⟩
  · rcases h8 with ⟨-, rfl, rfl, rfl, rfl, rfl, rfl, rfl⟩ | ⟨b, -⟩
    · exact ⟨rfl, rfl, rfl, rfl, rfl, hnt, Or.inl ⟨rfl, rfl, rfl, hd⟩⟩
    · exact absurd a1 b
  · rcases h8 with ⟨a1, -⟩ | ⟨-, rfl, n', X', hn', hx', hR', hX'⟩
    · exact absurd a1 b
    · have en : n = n' := (nI_eq (by omega) (by omega)).mp (hx.symm.trans hx')
      subst en
      have eX := Reads.one hR hR'
      subst eX
      rcases X with ⟨w, pl⟩ | ⟨ru, q⟩
      · obtain ⟨rfl, rfl, rfl, rfl, rfl, rfl⟩ := hX
        obtain ⟨rfl, rfl, rfl, rfl, rfl, e9⟩ := hX'
        exact ⟨rfl, rfl, rfl, rfl, rfl, Nat.zero_le _, Or.inl ⟨rfl, rfl, rfl, fun z => ⟨fun j hj => (e9 j hj).trans ((hd z).1 j hj), (hd z).2⟩⟩⟩
      · obtain ⟨rfl, rfl, rfl, rfl, rfl, rfl, e7, rfl, hru⟩ := hX
        obtain ⟨rfl, rfl, rfl, rfl, rfl, e9⟩ := hX'
        exact ⟨rfl, rfl, rfl, rfl, rfl, Nat.zero_le _, Or.inr ⟨rfl, rfl, rfl, fun _ => ⟨fun j hj => by rw [e7]; exact e9 j hj, by rw [e7]; exact hru⟩⟩⟩
theorem tie_due {fDB fCR fRK fLF fPU fRU fCU fMV fDY : Nat → Int32} {np nm j : Nat} {isd sp bf : Int32} (h : PInv np nm fDB fCR fRK fLF fPU j) (hj : j ≤ 512) (hd : DInv isd fRU fCU fMV sp bf) : ¬ isd = 0 → (∀ k, k < np → 0 ≤ ((fun j => mLeft fRU (fLF j) (fRK j) (fDY j)) k).toInt ∧ ((fun j => mLeft fRU (fLF j) (fRK j) (fDY j)) k).toInt ≤ 999) ∧ rkOk (fun j => mRank fRU (fRK j) (fDY j)) np := by
  have P := h.pap hj
  have hL : ¬ isd = 0 → ∀ k, k < np → mLeft fRU (fLF k) (fRK k) (fDY k) = dueF fCU sp bf fLF fRK fDY k := fun z k hk => tie_left (hd z).2 (hd z).1 (P.2.2.2.2.1 k hk)
  have hK : ¬ isd = 0 → ∀ k, k < np → mRank fRU (fRK k) (fDY k) = rkF fMV bf fRK fDY k := fun z k hk => tie_rank (hd z).2 (hd z).1 (P.2.2.2.2.1 k hk)
  intro z
  have D := decOk_of (hd z).2
  refine ⟨fun k hk => ?_, fun k hk => ?_⟩
  · show 0 ≤ (mLeft fRU (fLF k) (fRK k) (fDY k)).toInt ∧ (mLeft fRU (fLF k) (fRK k) (fDY k)).toInt ≤ 999
    rw [hL z k hk]; exact due_ok P D k hk
  · show mRank fRU (fRK k) (fDY k) = nI 0 ∨ mRank fRU (fRK k) (fDY k) = nI 1 ∨ mRank fRU (fRK k) (fDY k) = nI 2 ∨ mRank fRU (fRK k) (fDY k) = nI 3
    rw [hK z k hk]; exact rk_ok P D k hk
theorem tie_clear {fPU : Nat → Int32} {fLF : Nat → Int32} {fRK : Nat → Int32} {fDY : Nat → Int32} {fDB : Nat → Int32} {fCR : Nat → Int32} {fCU : Nat → Int32} {fMV : Nat → Int32} {sp : Int32} {bf : Int32} {nm : Nat} {np : Nat} {isd : Int32} {x : Int32} {gPD : Nat → Int32} {gHS : Nat → Int32} {gUN : Nat → Int32} {gFA : Nat → Int32} {R : Nat} {r : Int32} {fRU : Nat → Int32} {gcP' : Nat → Int32} {gcH' : Nat → Int32} {gcF' : Nat → Int32} {gcO' : Nat → Int32} {R' : Nat} {r' : Int32} {j : Nat} (h : PInv np nm fDB fCR fRK fLF fPU j) (hj : j ≤ 512) (hd : DInv isd fRU fCU fMV sp bf) (h7 : r = cntF gFA nm ∧ ClearRes np nm fDB fCR fPU (if ¬ x = 0 ∧ ¬ isd = 0 then dueF fCU sp bf fLF fRK fDY else fLF) (if ¬ x = 0 ∧ ¬ isd = 0 then rkF fMV bf fRK fDY else fRK) gPD gHS gUN gFA R) (h8 : r' = cntF gcF' nm ∧ ClearRes np nm fDB fCR fPU (if ¬ x = 0 ∧ ¬ isd = 0 then (fun j => mLeft fRU (fLF j) (fRK j) (fDY j)) else fLF) (if ¬ x = 0 ∧ ¬ isd = 0 then (fun j => mRank fRU (fRK j) (fDY j)) else fRK) gcP' gcH' gcO' gcF' R') : r' = r ∧ R' = R ∧ CInv nm np 1 (nI R) (nI R) gPD gHS gUN gFA gcP' gcH' gcO' gcF' := by
  have P := h.pap hj
  have hL : ¬ isd = 0 → ∀ k, k < np → mLeft fRU (fLF k) (fRK k) (fDY k) = dueF fCU sp bf fLF fRK fDY k := fun z k hk => tie_left (hd z).2 (hd z).1 (P.2.2.2.2.1 k hk)
  have hK : ¬ isd = 0 → ∀ k, k < np → mRank fRU (fRK k) (fDY k) = rkF fMV bf fRK fDY k := fun z k hk => tie_rank (hd z).2 (hd z).1 (P.2.2.2.2.1 k hk)
  obtain ⟨a1, a2⟩ := h7
  obtain ⟨b1, b2⟩ := h8
  have key : ∃ du rk, rkOk rk np ∧ ClearRes np nm fDB fCR fPU du rk gPD gHS gUN gFA R ∧ ClearRes np nm fDB fCR fPU du rk gcP' gcH' gcO' gcF' R' := by
    by_cases z : ¬ x = 0 ∧ ¬ isd = 0
    · rw [if_pos z, if_pos z] at a2 b2
      exact ⟨_, _, rk_ok P (decOk_of (hd z.2).2), a2, ClearRes_congr (fun k hk => hL z.2 k hk) (fun k hk => hK z.2 k hk) b2⟩
    · rw [if_neg z, if_neg z] at a2 b2
      exact ⟨_, _, plain_ok P, a2, b2⟩
  obtain ⟨du, rk, k1, k2, k3⟩ := key
  obtain ⟨e1, e2, e3, e4, e5⟩ := ClearRes_one k1 k2 k3
  refine ⟨by rw [a1, b1]; exact cntF_congr (fun m hm => (e5 m hm).symm), e1.symm, P.2.1, P.1, Or.inr ⟨by decide, rfl, e2, e3, e4, e5⟩⟩
theorem tellC_congr {PD HS FA UN PD2 HS2 FA2 UN2 : Nat → Int32} {cp cm : Nat} {x k : Int32} (hp : cp ≤ 40) (hm : cm ≤ 10) (h1 : ∀ k, k < cp → PD k = PD2 k) (h2 : ∀ m, m < cm → HS m = HS2 m) (h3 : ∀ m, m < cm → UN m = UN2 m) (h4 : ∀ m, m < cm → FA m = FA2 m) : tellC PD HS FA UN cp cm x k = tellC PD2 HS2 FA2 UN2 cp cm x k := by
  unfold tellC
  by_cases z : x = 0
  · rw [if_pos z, if_pos z]
    by_cases q : 0 ≤ k ∧ k < nI cp
    · rw [if_pos q, if_pos q, h1 _ (ix_lt (vp_of (by omega) q))]
    · rw [if_neg q, if_neg q]
  · rw [if_neg z, if_neg z]
    by_cases q : 0 ≤ k ∧ k < nI cm
    · have v := ix_lt (vp_of (by omega) q)
      rw [if_pos q, if_pos q, h2 _ v, h3 _ v, h4 _ v]
    · rw [if_neg q, if_neg q]
theorem tellC_0 {PD HS FA UN : Nat → Int32} {x k : Int32} : tellC PD HS FA UN 0 0 x k = -1 := by
  have q : ¬ (0 ≤ k ∧ k < nI 0) := fun y => by
    obtain ⟨y1, y2⟩ := y
    rw [i32_le, ti0] at y1
    rw [i32_lt, nI_toInt (by decide)] at y2
    omega
  unfold tellC
  rw [if_neg q, if_neg q]
  split <;> rfl
theorem tie_cleared {fPD : Nat → Int32} {fHS : Nat → Int32} {fFA : Nat → Int32} {fUN : Nat → Int32} {cm : Nat} {cpn : Nat} {cr : Int32} {x : Int32} {k : Int32} {r : Int32} {ic : Int32} {mcr : Int32} {fcP : Nat → Int32} {fcH : Nat → Int32} {fcF : Nat → Int32} {fcO : Nat → Int32} {r' : Int32} (hc : CInv cm cpn ic mcr cr fPD fHS fUN fFA fcP fcH fcO fcF) (h7 : r = tellC fPD fHS fFA fUN cpn cm x k) (h8 : r' = if ic = 0 then -1 else tellC fcP fcH fcF fcO cpn cm x k) : r' = r := by
  obtain ⟨c1, c2, ⟨c3, rfl, rfl, c4⟩ | ⟨c3, c4, c5, c6, c7, c8⟩⟩ := hc
  · rw [h7, h8, if_pos c3, tellC_0]
  · rw [h7, h8, if_neg c3]
    exact (tellC_congr c2 c1 c5 c6 c7 c8).symm
theorem tie_count {fPU : Nat → Int32} {fLF : Nat → Int32} {nm : Nat} {td : Int32} {np : Nat} {cr : Int32} {ln : Int32} {isd : Int32} {x : Int32} {r : Int32} {ic : Int32} {mcr : Int32} {r' : Int32} {fPD : Nat → Int32} {fHS : Nat → Int32} {fUN : Nat → Int32} {fFA : Nat → Int32} {fcP : Nat → Int32} {fcH : Nat → Int32} {fcO : Nat → Int32} {fcF : Nat → Int32} {cm : Nat} {cpn : Nat} (hc : CInv cm cpn ic mcr cr fPD fHS fUN fFA fcP fcH fcO fcF) (h7 : r = countS np nm td cr fLF fPU isd ln x) (h8 : r' = countS np nm td (if ic = 0 then -1 else mcr) fLF fPU isd ln x) : r' = r := by
  have e : (if ic = 0 then -1 else mcr) = cr := by
    obtain ⟨c1, c2, ⟨c3, -, -, c4⟩ | ⟨c3, c4, -⟩⟩ := hc
    · rw [if_pos c3, c4]
    · rw [if_neg c3, c4]
  rw [h8, e]
  exact h7.symm
theorem tie_enact {fLF : Nat → Int32} {fRK : Nat → Int32} {fDY : Nat → Int32} {fCU : Nat → Int32} {fMV : Nat → Int32} {sp : Int32} {bf : Int32} {nm : Nat} {np : Nat} {isd : Int32} {isd2 : Int32} {gLF : Nat → Int32} {gRK : Nat → Int32} {r : Int32} {fRU : Nat → Int32} {isd2' : Int32} {gLF' : Nat → Int32} {gRK' : Nat → Int32} {r' : Int32} {j : Nat} {fDB : Nat → Int32} {fCR : Nat → Int32} {fPU : Nat → Int32} (h : PInv np nm fDB fCR fRK fLF fPU j) (hj : j ≤ 512) (hd : DInv isd fRU fCU fMV sp bf) (h7 : (¬ isd = 0 ∧ r = lessS fCU sp bf fLF fRK fDY np ∧ isd2 = 0 ∧ gLF = fil (dueF fCU sp bf fLF fRK fDY) fLF np ∧ gRK = fil (rkF fMV bf fRK fDY) fRK np) ∨ (isd = 0 ∧ r = -1 ∧ isd2 = isd ∧ gLF = fLF ∧ gRK = fRK)) (h8 : (¬ isd = 0 ∧ r' = mLess fRU fLF fRK fDY np ∧ isd2' = 0 ∧ gLF' = fil (fun j => mLeft fRU (fLF j) (fRK j) (fDY j)) fLF np ∧ gRK' = fil (fun j => mRank fRU (fRK j) (fDY j)) fRK np) ∨ (isd = 0 ∧ r' = -1 ∧ isd2' = isd ∧ gLF' = fLF ∧ gRK' = fRK)) : r' = r ∧ isd2' = isd2 ∧ gLF' = gLF ∧ gRK' = gRK ∧ PInv np nm fDB fCR gRK gLF fPU (j + 1) ∧ DInv isd2 fRU fCU fMV sp bf := by
  have P := h.pap hj
  have hL : ¬ isd = 0 → ∀ k, k < np → mLeft fRU (fLF k) (fRK k) (fDY k) = dueF fCU sp bf fLF fRK fDY k := fun z k hk => tie_left (hd z).2 (hd z).1 (P.2.2.2.2.1 k hk)
  have hK : ¬ isd = 0 → ∀ k, k < np → mRank fRU (fRK k) (fDY k) = rkF fMV bf fRK fDY k := fun z k hk => tie_rank (hd z).2 (hd z).1 (P.2.2.2.2.1 k hk)
  have filc : ∀ (f g b : Nat → Int32), (∀ k, k < np → f k = g k) → fil f b np = fil g b np := fun f g b hh => by
    funext k
    unfold fil
    by_cases q : k < np
    · rw [if_pos q, if_pos q, hh k q]
    · rw [if_neg q, if_neg q]
  rcases h7 with ⟨a1, rfl, rfl, rfl, rfl⟩ | ⟨b, rfl, rfl, rfl, rfl⟩
  · rcases h8 with ⟨-, rfl, rfl, rfl, rfl⟩ | ⟨b, -⟩
    · exact ⟨tie_less (hd a1).2 (hd a1).1 np P.2.2.2.2.1, rfl, filc _ _ _ (hL a1), filc _ _ _ (hK a1), h.enact (decOk_of (hd a1).2), fun z => absurd rfl z⟩
    · exact absurd b a1
  · rcases h8 with ⟨a1, -⟩ | ⟨-, rfl, rfl, rfl, rfl⟩
    · exact absurd b a1
    · exact ⟨rfl, rfl, rfl, rfl, h.up, hd⟩
theorem tie_end {fPU : Nat → Int32} {fLF : Nat → Int32} {fRK : Nat → Int32} {fDB : Nat → Int32} {fCR : Nat → Int32} {nm : Nat} {td : Int32} {np : Nat} {gPD : Nat → Int32} {gHS : Nat → Int32} {gUN : Nat → Int32} {gFA : Nat → Int32} {t2 : Int32} {gPU : Nat → Int32} {gLF : Nat → Int32} {r : Int32} {t2' : Int32} {gPD' : Nat → Int32} {gFA' : Nat → Int32} {gPU' : Nat → Int32} {gLF' : Nat → Int32} {r' : Int32} {j : Nat} (h : PInv np nm fDB fCR fRK fLF fPU j) (hj : j ≤ 512) (htd : 0 ≤ td ∧ td ≤ 999) (h7 : (td < 999 ∧ t2 = td + 1 ∧ (∃ R, ClearRes np nm fDB fCR fPU fLF fRK gPD gHS gUN gFA R) ∧ r = sumS gPD np ∧ gPU = fil gHS fPU nm ∧ gLF = fil (fun j => fLF j - gPD j) fLF np) ∨ (¬ td < 999 ∧ r = -1 ∧ t2 = td ∧ gPU = fPU ∧ gLF = fLF)) (h8 : (td < 999 ∧ t2' = td + 1 ∧ (∃ R HS UN, ClearRes np nm fDB fCR fPU fLF fRK gPD' HS UN gFA' R ∧ gPU' = fil HS fPU nm) ∧ r' = sumS gPD' np ∧ gLF' = fil (fun j => fLF j - gPD' j) fLF np) ∨ (¬ td < 999 ∧ r' = -1 ∧ t2' = td ∧ gPU' = fPU ∧ gLF' = fLF)) : r' = r ∧ t2' = t2 ∧ gPU' = gPU ∧ gLF' = gLF ∧ (0 ≤ t2 ∧ t2 ≤ 999) ∧ PInv np nm fDB fCR fRK gLF gPU (j + 1) := by
  have P := h.pap hj
  rcases h7 with ⟨a1, rfl, ⟨R, hR⟩, rfl, rfl, rfl⟩ | ⟨b, rfl, rfl, rfl, rfl⟩
  · rcases h8 with ⟨-, rfl, ⟨R', HS, UN, hR', rfl⟩, rfl, rfl⟩ | ⟨b, -⟩
    · obtain ⟨-, e2, e3, -, -⟩ := ClearRes_one (plain_ok P) hR hR'
      refine ⟨sumS_congr (fun k hk => (e2 k hk).symm), rfl, ?_, ?_, ?_, h.fin hj hR⟩
      · funext m; unfold fil; by_cases q : m < nm
        · rw [if_pos q, if_pos q, e3 m q]
        · rw [if_neg q, if_neg q]
      · funext k; unfold fil; by_cases q : k < np
        · rw [if_pos q, if_pos q]
          show fLF k - gPD' k = fLF k - gPD k
          rw [e2 k q]
        · rw [if_neg q, if_neg q]
      · have e9 : (999 : Int32).toInt = 999 := by decide
        have e1 : (1 : Int32).toInt = 1 := by decide
        obtain ⟨t1, -⟩ := htd
        rw [i32_le, ti0] at t1
        rw [i32_lt, e9] at a1
        rw [i32_le, i32_le, ti0, e9, i32_add (by rw [e1]; omega) (by rw [e1]; omega), e1]
        omega
    · exact absurd a1 b
  · rcases h8 with ⟨a1, -⟩ | ⟨-, rfl, rfl, rfl, rfl⟩
    · exact absurd a1 b
    · exact ⟨rfl, rfl, rfl, rfl, htd, h.up⟩
theorem tie_look {np : Nat} {a0 x r r' th2 : Int32} {g : Nat → Int64} {fDB fCR fTK fRK fLF fDY fCP : Nat → Int32} (h7 : ((0 ≤ a0 ∧ a0 < nI np) ∧ (0 ≤ x ∧ x ≤ 6) ∧ r = 0 ∧ g 0 = (tellS fDB fCR fTK fRK fLF fDY fCP (ix a0) x).toInt64) ∨ (¬ (0 ≤ a0 ∧ a0 < nI np) ∧ r = 1) ∨ ((0 ≤ a0 ∧ a0 < nI np) ∧ ¬ (0 ≤ x ∧ x ≤ 6) ∧ r = 2)) (h8 : ((0 ≤ a0 ∧ a0 < nI np) ∧ (0 ≤ x ∧ x ≤ 6) ∧ th2 = 0 ∧ r' = tellS fDB fCR fTK fRK fLF fDY fCP (ix a0) x) ∨ ((0 ≤ a0 ∧ a0 < nI np) ∧ ¬ (0 ≤ x ∧ x ≤ 6) ∧ th2 = 2) ∨ (¬ (0 ≤ a0 ∧ a0 < nI np) ∧ th2 = 1)) : th2 = r ∧ (r = 0 → g 0 = r'.toInt64) := by
  rcases h7 with ⟨a1, a2, rfl, e⟩ | ⟨a1, rfl⟩ | ⟨a1, a2, rfl⟩
  · rcases h8 with ⟨-, -, rfl, rfl⟩ | ⟨-, b, -⟩ | ⟨b, -⟩
    · exact ⟨rfl, fun _ => e⟩
    · exact absurd a2 b
    · exact absurd a1 b
  · rcases h8 with ⟨b, -⟩ | ⟨b, -⟩ | ⟨-, rfl⟩
    · exact absurd b a1
    · exact absurd b a1
    · exact ⟨rfl, fun z => absurd z (by decide)⟩
  · rcases h8 with ⟨-, b, -⟩ | ⟨-, -, rfl⟩ | ⟨b, -⟩
    · exact absurd b a2
    · exact ⟨rfl, fun z => absurd z (by decide)⟩
    · exact absurd a1 b
