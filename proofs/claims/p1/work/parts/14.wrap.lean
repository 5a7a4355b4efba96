set_option maxHeartbeats 4000000 in
set_option maxRecDepth 100000 in
theorem kL_make (l : Launch) (hl0 : l.stackTraces = false) (D : va_G) (C : Nat → ClassId) (b0 sz : Nat) (h0 : Nat) (s0 : Nat) (de : Nat) (kl : Nat) (tl : Nat) (cu : Nat) (hk : Nat) (ca : Nat) (kx : Nat) (ky : Nat) (tx : Nat) (ty : Nat) (a0 : Nat) (a1 : Nat) (a2 : Nat) (a3 : Nat) (a4 : Nat) (a5 : Nat) (a6 : Nat) (a7 : Nat) (a8 : Nat) (a9 : Nat) (a10 : Nat) (a11 : Nat) (f0 : Nat → Int32) (f1 : Nat → Int32) (f2 : Nat → Int32) (f3 : Nat → Int32) (p0 : Int32) (ou : Nat) (fo : Nat → Int64) : Met l yL_make (xwh yL_make cL_make 4 (some .int) [(0, 9, 12, 13), (0, 9, 15, 15)]) ({ frames := 64, cells := 3, slots := 18, locals := 1200 }) (xPc D C b0 [.ref h0, .int p0, .ref ou] [(h0, .inr (5, [.ref s0, .ref de, .ref kl, .ref tl, .ref cu, .ref hk, .ref ca, .int 0, .int 0, .int (-1), .int 0, .int 0])), (kl, .inr (2, [.ref kx, .ref ky, .int 0])), (tl, .inr (4, [.ref tx, .ref ty, .int 1])), (s0, .inr (3, [.ref a0, .ref a1, .ref a2, .ref a3, .ref a4, .ref a5, .ref a6, .int 0, .ref a7, .ref a8, .ref a9, .ref a10, .ref a11, .int 0])), (a0, .inl (C 0, 600, .inl f0)), (a1, .inl (C 0, 600, .inl f1)), (a2, .inl (C 1, 600, .inl f2)), (a3, .inl (C 0, 600, .inl f3)), (ou, .inl (C 2, 1, .inr (.inl fo)))] sz) (va_Qi (fun (r : Int32) (u : Nat → Int64) => (p0 = -1 ∧ r = 0 ∧ u 0 = Int32.toInt64 (-2)) ∨ (¬ p0 = -1 ∧ r = 1)) (xBw D (va_A [(h0, .inr (5, [.ref s0, .ref de, .ref kl, .ref tl, .ref cu, .ref hk, .ref ca, .int 0, .int 0, .int (-1), .int 0, .int 0])), (kl, .inr (2, [.ref kx, .ref ky, .int 0])), (tl, .inr (4, [.ref tx, .ref ty, .int 1])), (s0, .inr (3, [.ref a0, .ref a1, .ref a2, .ref a3, .ref a4, .ref a5, .ref a6, .int 0, .ref a7, .ref a8, .ref a9, .ref a10, .ref a11, .int 0])), (a0, .inl (C 0, 600, .inl f0)), (a1, .inl (C 0, 600, .inl f1)), (a2, .inl (C 1, 600, .inl f2)), (a3, .inl (C 0, 600, .inl f3)), (ou, .inl (C 2, 1, .inr (.inl fo)))] sz) (fun u => [(ou, .inl (C 2, 1, .inr (.inl (u))))])) (va_A [(h0, .inr (5, [.ref s0, .ref de, .ref kl, .ref tl, .ref cu, .ref hk, .ref ca, .int 0, .int 0, .int (-1), .int 0, .int 0])), (kl, .inr (2, [.ref kx, .ref ky, .int 0])), (tl, .inr (4, [.ref tx, .ref ty, .int 1])), (s0, .inr (3, [.ref a0, .ref a1, .ref a2, .ref a3, .ref a4, .ref a5, .ref a6, .int 0, .ref a7, .ref a8, .ref a9, .ref a10, .ref a11, .int 0])), (a0, .inl (C 0, 600, .inl f0)), (a1, .inl (C 0, 600, .inl f1)), (a2, .inl (C 1, 600, .inl f2)), (a3, .inl (C 0, 600, .inl f3)), (ou, .inl (C 2, 1, .inr (.inl fo)))] sz)) 3 18 (va_A [(h0, .inr (5, [.ref s0, .ref de, .ref kl, .ref tl, .ref cu, .ref hk, .ref ca, .int 0, .int 0, .int (-1), .int 0, .int 0])), (kl, .inr (2, [.ref kx, .ref ky, .int 0])), (tl, .inr (4, [.ref tx, .ref ty, .int 1])), (s0, .inr (3, [.ref a0, .ref a1, .ref a2, .ref a3, .ref a4, .ref a5, .ref a6, .int 0, .ref a7, .ref a8, .ref a9, .ref a10, .ref a11, .int 0])), (a0, .inl (C 0, 600, .inl f0)), (a1, .inl (C 0, 600, .inl f1)), (a2, .inl (C 1, 600, .inl f2)), (a3, .inl (C 0, 600, .inl f3)), (ou, .inl (C 2, 1, .inr (.inl fo)))] sz) := by
  refine va_MetW (cc := cL_make) (maxL := 4) (ret := (some .int)) (by decide) rfl ?_
  intro p e s m args below meth c s₁ B hml hv
  obtain ⟨rfl, hsz, hP, hK, hD0, hE⟩ := hv
  have hx := B.exec
  have hb := B.bytes
  have hr := B.returns
  have ht : ∀ w ∈ xb, w.before _ s = true := fun w h => atoms_spec (ws := xwh yL_make cL_make 4 (some .int) [(0, 9, 12, 13), (0, 9, 15, 15)]) B.pre w (List.mem_cons_of_mem _ h)
  have hown : s.vm.findClass RL = some m.cls := findClass_of_methodNamed B.named
  have hlocks := B.notSynchronized
  have hsplit := vx_table (x := yL_make) B (atoms_spec (ws := xwh yL_make cL_make 4 (some .int) [(0, 9, 12, 13), (0, 9, 15, 15)]) B.pre _ List.mem_cons_self)
  subst hsz
  have hAb := x_Ab hD0 hE.1
  have hD := hD0.self (sz := s.heap.size)
  generalize hAe : va_A [(h0, .inr (5, [.ref s0, .ref de, .ref kl, .ref tl, .ref cu, .ref hk, .ref ca, .int 0, .int 0, .int (-1), .int 0, .int 0])), (kl, .inr (2, [.ref kx, .ref ky, .int 0])), (tl, .inr (4, [.ref tx, .ref ty, .int 1])), (s0, .inr (3, [.ref a0, .ref a1, .ref a2, .ref a3, .ref a4, .ref a5, .ref a6, .int 0, .ref a7, .ref a8, .ref a9, .ref a10, .ref a11, .int 0])), (a0, .inl (C 0, 600, .inl f0)), (a1, .inl (C 0, 600, .inl f1)), (a2, .inl (C 1, 600, .inl f2)), (a3, .inl (C 0, 600, .inl f3)), (ou, .inl (C 2, 1, .inr (.inl fo)))] s.heap.size = A at hD hAb ⊢
  have hA : ∀ q : Nat, s.heap.size ≤ q → A q := fun q h => by rw [← hAe]; exact Or.inr h
  have hS : va_S A s.heap s.heap [] := va_S.rf
  have hP : va_P D vwCl [(h0, .inr (5, [.ref s0, .ref de, .ref kl, .ref tl, .ref cu, .ref hk, .ref ca, .int 0, .int 0, .int (-1), .int 0, .int 0])), (kl, .inr (2, [.ref kx, .ref ky, .int 0])), (tl, .inr (4, [.ref tx, .ref ty, .int 1])), (s0, .inr (3, [.ref a0, .ref a1, .ref a2, .ref a3, .ref a4, .ref a5, .ref a6, .int 0, .ref a7, .ref a8, .ref a9, .ref a10, .ref a11, .int 0])), (a0, .inl (C 0, 600, .inl f0)), (a1, .inl (C 0, 600, .inl f1)), (a2, .inl (C 1, 600, .inl f2)), (a3, .inl (C 0, 600, .inl f3)), (ou, .inl (C 2, 1, .inr (.inl fo)))] s.heap := hP
  have hl := lv_entry ([.ref h0, .int p0, .ref ou]) (n := 4) (Nat.le_of_ble_eq_true rfl)
  rw [lg_entry_eq]
  generalize (lg_sl ([.ref h0, .int p0, .ref ou]) ++ List.replicate (4 - (lg_sl ([.ref h0, .int p0, .ref ou])).length) Slot.unset).toArray = ls at hl ⊢
  have hl : lv_has ls 4 [(0, .ref h0), (1, .int p0), (2, .ref ou)] := hl
  refine lv_aload_n hx hb dL_make_0 rfl (lv_at hl 2 rfl) ?_
  refine lv_iconst (v := 0) hx hb dL_make_1 (by decide) ?_
  refine lv_aload_n hx hb dL_make_2 rfl (lv_at hl 0 rfl) ?_
  refine lv_iload_n hx hb dL_make_3 rfl (lv_at hl 1 rfl) ?_
  have hPc := hP.sub (ws' := [(h0, .inr (5, [.ref s0, .ref de, .ref kl, .ref tl, .ref cu, .ref hk, .ref ca, .int 0, .int 0, .int (-1), .int 0, .int 0])), (kl, .inr (2, [.ref kx, .ref ky, .int 0])), (tl, .inr (4, [.ref tx, .ref ty, .int 1])), (s0, .inr (3, [.ref a0, .ref a1, .ref a2, .ref a3, .ref a4, .ref a5, .ref a6, .int 0, .ref a7, .ref a8, .ref a9, .ref a10, .ref a11, .int 0])), (a0, .inl (C 0, 600, .inl f0)), (a1, .inl (C 0, 600, .inl f1)), (a2, .inl (C 1, 600, .inl f2)), (a3, .inl (C 0, 600, .inl f3))]) [0, 1, 2, 3, 4, 5, 6, 7] rfl
  have hDc := hD.sub (ws' := [(h0, .inr (5, [.ref s0, .ref de, .ref kl, .ref tl, .ref cu, .ref hk, .ref ca, .int 0, .int 0, .int (-1), .int 0, .int 0])), (kl, .inr (2, [.ref kx, .ref ky, .int 0])), (tl, .inr (4, [.ref tx, .ref ty, .int 1])), (s0, .inr (3, [.ref a0, .ref a1, .ref a2, .ref a3, .ref a4, .ref a5, .ref a6, .int 0, .ref a7, .ref a8, .ref a9, .ref a10, .ref a11, .int 0])), (a0, .inl (C 0, 600, .inl f0)), (a1, .inl (C 0, 600, .inl f1)), (a2, .inl (C 1, 600, .inl f2)), (a3, .inl (C 0, 600, .inl f3))]) [0, 1, 2, 3, 4, 5, 6, 7] (by decide) rfl
  have hFc := va_free (wc := [(h0, .inr (5, [.ref s0, .ref de, .ref kl, .ref tl, .ref cu, .ref hk, .ref ca, .int 0, .int 0, .int (-1), .int 0, .int 0])), (kl, .inr (2, [.ref kx, .ref ky, .int 0])), (tl, .inr (4, [.ref tx, .ref ty, .int 1])), (s0, .inr (3, [.ref a0, .ref a1, .ref a2, .ref a3, .ref a4, .ref a5, .ref a6, .int 0, .ref a7, .ref a8, .ref a9, .ref a10, .ref a11, .int 0])), (a0, .inl (C 0, 600, .inl f0)), (a1, .inl (C 0, 600, .inl f1)), (a2, .inl (C 1, 600, .inl f2)), (a3, .inl (C 0, 600, .inl f3))]) hD hS hA [0, 1, 2, 3, 4, 5, 6, 7] rfl
  refine vx_calli (vx_runV (As := [.int p0]) (rest := [.int 0, .ref ou]) ⟨hx, hb, hml, hown, ht⟩ (k5_make l hl0 D C b0 s.heap.size h0 s0 de kl tl cu hk ca kx ky tx ty a0 a1 a2 a3 a4 a5 a6 a7 a8 a9 a10 a11 f0 f1 f2 f3 p0) (cwV 1 ht (xg_V m_489 m_490 m_491 m_281 m_179) rfl rfl rfl (by decide +kernel) ⟨Nat.le_of_ble_eq_true rfl, Nat.le_of_ble_eq_true rfl⟩) ⟨xPc_bl, va_recv hK hPc (ci := 5) (q0 := 0) rfl rfl, xPc_at hPc hK hDc hE hS hAb⟩ rfl rfl hl.1 rfl (lv_room (Nat.le_of_ble_eq_true rfl)) dL_make_4 ⟨(by decide), (by decide)⟩) hS (fun q _ h => hFc q h) hFc (fun q _ h => hFc q h) (fun E ce q9 u9 t9 H9 locs9 e9 v9 p9 b9 z9 k9 hS9 hc9 hn9 hf9 => ?_) (fun r_1 u_2 t H1 locs ht1 hvm hw hB hz1 hk1 hS => ?_)
  · skip
    obtain rfl := b9
    obtain ⟨hP, hD⟩ := va_join (wr := [(ou, .inl (C 2, 1, .inr (.inl fo)))]) (w1 := []) hP hD [0, 1, 2, 3, 4, 5, 6, 7] [8] rfl rfl (by decide) (by decide) k9 hFc (fun k q h => by simp at h) ⟨fun i j p q h => by simp at h, fun k q h => by simp at h⟩
    have hP : va_P D vwCl [(ou, .inl (C 2, 1, .inr (.inl fo)))] H9 := hP
    have hD : va_D A [(ou, .inl (C 2, 1, .inr (.inl fo)))] := hD
    have hS := hS9
    refine x_catch hown ⟨0, 9, 12, 13⟩ [⟨0, 9, 15, 15⟩] (hsplit.trans rfl) (by decide) (by decide) (ht _ m_492) (hE.use (by decide +kernel)) hc9 hn9 hf9 ?_
    refine W.widen (k := 3) (n := 18) (by decide) (by decide) ?_
    refine lv_astore_n (lv' := [(3, .ref q9), (0, .ref h0), (1, .int p0), (2, .ref ou)]) hx hb dL_make_12 rfl hl (by decide) rfl (fun ls hl => ?_)
    refine lv_iconst (v := 1) hx hb dL_make_13 (by decide) ?_
    have hP9 := hP.sub (ws' := [(ou, .inl (C 2, 1, .inr (.inl fo)))]) [0] rfl
    have hD9 := hD.sub (ws' := [(ou, .inl (C 2, 1, .inr (.inl fo)))]) [0] (by decide) rfl
    refine W.widen (k := 3) (n := 18) (by decide) (by decide) ?_
    exact W.iret (v := 1) hx hb hr (fun t ht1 hW => ⟨⟨1, fo, rfl, Or.inr ⟨p9, rfl⟩, by rw [ht1]; exact hP9, hD9⟩, hS.F ht1⟩) hS.2.2 dL_make_14
  · skip
    obtain ⟨hP1, hD1⟩ := hB
    rw [ht1] at hP1
    try dsimp only at hw
    obtain ⟨hP, hD⟩ := va_join (wr := [(ou, .inl (C 2, 1, .inr (.inl fo)))]) (w1 := []) hP hD [0, 1, 2, 3, 4, 5, 6, 7] [8] rfl rfl (by decide) (by decide) hk1 hFc hP1 hD1
    generalize H1 = H at hP hS ⊢
    have hP : va_P D vwCl [(ou, .inl (C 2, 1, .inr (.inl fo)))] H := hP
    have hD : va_D A [(ou, .inl (C 2, 1, .inr (.inl fo)))] := hD
    have hq_4 := hw
    obtain rfl : r_1 = (-2 : Int32) := hw.2
    refine W.widen (k := 3) (n := 18) (by decide) (by decide) ?_
    refine lv_i2l hx hb dL_make_7 rfl ?_
    refine va_last hx hb hK hP hD hS 0 2 rfl rfl (by unfold vp_in; decide) dL_make_8 (fun H locs hP hD hS => ?_)
    have hP : va_P D vwCl [(ou, .inl (C 2, 1, .inr (.inl ((vp_updL fo (Int32.toNatClampNeg 0) (Int32.toInt64 (-2)))))))] H := hP
    have hD : va_D A [(ou, .inl (C 2, 1, .inr (.inl ((vp_updL fo (Int32.toNatClampNeg 0) (Int32.toInt64 (-2)))))))] := hD
    refine lv_goto (tgt := 18) hx hb dL_make_9 (by decide) ?_
    refine lv_iconst (v := 0) hx hb dL_make_18 (by decide) ?_
    have hP9 := hP.sub (ws' := [(ou, .inl (C 2, 1, .inr (.inl ((vp_updL fo (Int32.toNatClampNeg 0) (Int32.toInt64 (-2)))))))]) [0] rfl
    have hD9 := hD.sub (ws' := [(ou, .inl (C 2, 1, .inr (.inl ((vp_updL fo (Int32.toNatClampNeg 0) (Int32.toInt64 (-2)))))))]) [0] (by decide) rfl
    refine W.widen (k := 3) (n := 18) (by decide) (by decide) ?_
    exact W.iret (v := 0) hx hb hr (fun t ht1 hW => ⟨⟨0, (vp_updL fo (Int32.toNatClampNeg 0) (Int32.toInt64 (-2))), rfl, Or.inl ⟨hq_4.1, rfl, x_uL0 ⟩, by rw [ht1]; exact hP9, hD9⟩, hS.F ht1⟩) hS.2.2 dL_make_19
set_option maxHeartbeats 4000000 in
set_option maxRecDepth 100000 in
theorem kL_array (l : Launch) (hl0 : l.stackTraces = false) (D : va_G) (C : Nat → ClassId) (b0 sz : Nat) (h0 : Nat) (s0 : Nat) (de : Nat) (kl : Nat) (tl : Nat) (cu : Nat) (hk : Nat) (ca : Nat) (kx : Nat) (ky : Nat) (tx : Nat) (ty : Nat) (a0 : Nat) (a1 : Nat) (a2 : Nat) (a3 : Nat) (a4 : Nat) (a5 : Nat) (a6 : Nat) (a7 : Nat) (a8 : Nat) (a9 : Nat) (a10 : Nat) (a11 : Nat) (f0 : Nat → Int32) (f1 : Nat → Int32) (f2 : Nat → Int32) (f3 : Nat → Int32) (f7 : Nat → Int32) (f8 : Nat → Int32) (f9 : Nat → Int32) (f10 : Nat → Int32) (f11 : Nat → Int32) (p0 : Int32) (ou : Nat) (fo : Nat → Int64) : Met l yL_array (xwh yL_array cL_array 4 (some .int) [(0, 9, 12, 13), (0, 9, 15, 15)]) ({ frames := 64, cells := 3, slots := 18, locals := 1200 }) (xPc D C b0 [.ref h0, .int p0, .ref ou] [(h0, .inr (5, [.ref s0, .ref de, .ref kl, .ref tl, .ref cu, .ref hk, .ref ca, .int 0, .int 0, .int (-1), .int 0, .int 0])), (kl, .inr (2, [.ref kx, .ref ky, .int 0])), (tl, .inr (4, [.ref tx, .ref ty, .int 1])), (s0, .inr (3, [.ref a0, .ref a1, .ref a2, .ref a3, .ref a4, .ref a5, .ref a6, .int 0, .ref a7, .ref a8, .ref a9, .ref a10, .ref a11, .int 0])), (a0, .inl (C 0, 600, .inl f0)), (a1, .inl (C 0, 600, .inl f1)), (a2, .inl (C 1, 600, .inl f2)), (a3, .inl (C 0, 600, .inl f3)), (a7, .inl (C 0, 5999, .inl f7)), (a8, .inl (C 0, 5999, .inl f8)), (a9, .inl (C 0, 5999, .inl f9)), (a10, .inl (C 0, 5999, .inl f10)), (a11, .inl (C 0, 5999, .inl f11)), (ou, .inl (C 2, 1, .inr (.inl fo)))] sz) (va_Qi (fun (r : Int32) (u : Nat → Int64) => ((¬ p0 < 0 ∧ p0 ≤ 100) ∧ r = 0 ∧ u 0 = Int32.toInt64 (-2)) ∨ (¬ (¬ p0 < 0 ∧ p0 ≤ 100) ∧ r = 1)) (xBw D (va_A [(h0, .inr (5, [.ref s0, .ref de, .ref kl, .ref tl, .ref cu, .ref hk, .ref ca, .int 0, .int 0, .int (-1), .int 0, .int 0])), (kl, .inr (2, [.ref kx, .ref ky, .int 0])), (tl, .inr (4, [.ref tx, .ref ty, .int 1])), (s0, .inr (3, [.ref a0, .ref a1, .ref a2, .ref a3, .ref a4, .ref a5, .ref a6, .int 0, .ref a7, .ref a8, .ref a9, .ref a10, .ref a11, .int 0])), (a0, .inl (C 0, 600, .inl f0)), (a1, .inl (C 0, 600, .inl f1)), (a2, .inl (C 1, 600, .inl f2)), (a3, .inl (C 0, 600, .inl f3)), (a7, .inl (C 0, 5999, .inl f7)), (a8, .inl (C 0, 5999, .inl f8)), (a9, .inl (C 0, 5999, .inl f9)), (a10, .inl (C 0, 5999, .inl f10)), (a11, .inl (C 0, 5999, .inl f11)), (ou, .inl (C 2, 1, .inr (.inl fo)))] sz) (fun u => [(ou, .inl (C 2, 1, .inr (.inl (u))))])) (va_A [(h0, .inr (5, [.ref s0, .ref de, .ref kl, .ref tl, .ref cu, .ref hk, .ref ca, .int 0, .int 0, .int (-1), .int 0, .int 0])), (kl, .inr (2, [.ref kx, .ref ky, .int 0])), (tl, .inr (4, [.ref tx, .ref ty, .int 1])), (s0, .inr (3, [.ref a0, .ref a1, .ref a2, .ref a3, .ref a4, .ref a5, .ref a6, .int 0, .ref a7, .ref a8, .ref a9, .ref a10, .ref a11, .int 0])), (a0, .inl (C 0, 600, .inl f0)), (a1, .inl (C 0, 600, .inl f1)), (a2, .inl (C 1, 600, .inl f2)), (a3, .inl (C 0, 600, .inl f3)), (a7, .inl (C 0, 5999, .inl f7)), (a8, .inl (C 0, 5999, .inl f8)), (a9, .inl (C 0, 5999, .inl f9)), (a10, .inl (C 0, 5999, .inl f10)), (a11, .inl (C 0, 5999, .inl f11)), (ou, .inl (C 2, 1, .inr (.inl fo)))] sz)) 3 18 (va_A [(h0, .inr (5, [.ref s0, .ref de, .ref kl, .ref tl, .ref cu, .ref hk, .ref ca, .int 0, .int 0, .int (-1), .int 0, .int 0])), (kl, .inr (2, [.ref kx, .ref ky, .int 0])), (tl, .inr (4, [.ref tx, .ref ty, .int 1])), (s0, .inr (3, [.ref a0, .ref a1, .ref a2, .ref a3, .ref a4, .ref a5, .ref a6, .int 0, .ref a7, .ref a8, .ref a9, .ref a10, .ref a11, .int 0])), (a0, .inl (C 0, 600, .inl f0)), (a1, .inl (C 0, 600, .inl f1)), (a2, .inl (C 1, 600, .inl f2)), (a3, .inl (C 0, 600, .inl f3)), (a7, .inl (C 0, 5999, .inl f7)), (a8, .inl (C 0, 5999, .inl f8)), (a9, .inl (C 0, 5999, .inl f9)), (a10, .inl (C 0, 5999, .inl f10)), (a11, .inl (C 0, 5999, .inl f11)), (ou, .inl (C 2, 1, .inr (.inl fo)))] sz) := by
  refine va_MetW (cc := cL_array) (maxL := 4) (ret := (some .int)) (by decide) rfl ?_
  intro p e s m args below meth c s₁ B hml hv
  obtain ⟨rfl, hsz, hP, hK, hD0, hE⟩ := hv
  have hx := B.exec
  have hb := B.bytes
  have hr := B.returns
  have ht : ∀ w ∈ xb, w.before _ s = true := fun w h => atoms_spec (ws := xwh yL_array cL_array 4 (some .int) [(0, 9, 12, 13), (0, 9, 15, 15)]) B.pre w (List.mem_cons_of_mem _ h)
  have hown : s.vm.findClass RL = some m.cls := findClass_of_methodNamed B.named
  have hlocks := B.notSynchronized
  have hsplit := vx_table (x := yL_array) B (atoms_spec (ws := xwh yL_array cL_array 4 (some .int) [(0, 9, 12, 13), (0, 9, 15, 15)]) B.pre _ List.mem_cons_self)
  subst hsz
  have hAb := x_Ab hD0 hE.1
  have hD := hD0.self (sz := s.heap.size)
  generalize hAe : va_A [(h0, .inr (5, [.ref s0, .ref de, .ref kl, .ref tl, .ref cu, .ref hk, .ref ca, .int 0, .int 0, .int (-1), .int 0, .int 0])), (kl, .inr (2, [.ref kx, .ref ky, .int 0])), (tl, .inr (4, [.ref tx, .ref ty, .int 1])), (s0, .inr (3, [.ref a0, .ref a1, .ref a2, .ref a3, .ref a4, .ref a5, .ref a6, .int 0, .ref a7, .ref a8, .ref a9, .ref a10, .ref a11, .int 0])), (a0, .inl (C 0, 600, .inl f0)), (a1, .inl (C 0, 600, .inl f1)), (a2, .inl (C 1, 600, .inl f2)), (a3, .inl (C 0, 600, .inl f3)), (a7, .inl (C 0, 5999, .inl f7)), (a8, .inl (C 0, 5999, .inl f8)), (a9, .inl (C 0, 5999, .inl f9)), (a10, .inl (C 0, 5999, .inl f10)), (a11, .inl (C 0, 5999, .inl f11)), (ou, .inl (C 2, 1, .inr (.inl fo)))] s.heap.size = A at hD hAb ⊢
  have hA : ∀ q : Nat, s.heap.size ≤ q → A q := fun q h => by rw [← hAe]; exact Or.inr h
  have hS : va_S A s.heap s.heap [] := va_S.rf
  have hP : va_P D vwCl [(h0, .inr (5, [.ref s0, .ref de, .ref kl, .ref tl, .ref cu, .ref hk, .ref ca, .int 0, .int 0, .int (-1), .int 0, .int 0])), (kl, .inr (2, [.ref kx, .ref ky, .int 0])), (tl, .inr (4, [.ref tx, .ref ty, .int 1])), (s0, .inr (3, [.ref a0, .ref a1, .ref a2, .ref a3, .ref a4, .ref a5, .ref a6, .int 0, .ref a7, .ref a8, .ref a9, .ref a10, .ref a11, .int 0])), (a0, .inl (C 0, 600, .inl f0)), (a1, .inl (C 0, 600, .inl f1)), (a2, .inl (C 1, 600, .inl f2)), (a3, .inl (C 0, 600, .inl f3)), (a7, .inl (C 0, 5999, .inl f7)), (a8, .inl (C 0, 5999, .inl f8)), (a9, .inl (C 0, 5999, .inl f9)), (a10, .inl (C 0, 5999, .inl f10)), (a11, .inl (C 0, 5999, .inl f11)), (ou, .inl (C 2, 1, .inr (.inl fo)))] s.heap := hP
  have hl := lv_entry ([.ref h0, .int p0, .ref ou]) (n := 4) (Nat.le_of_ble_eq_true rfl)
  rw [lg_entry_eq]
  generalize (lg_sl ([.ref h0, .int p0, .ref ou]) ++ List.replicate (4 - (lg_sl ([.ref h0, .int p0, .ref ou])).length) Slot.unset).toArray = ls at hl ⊢
  have hl : lv_has ls 4 [(0, .ref h0), (1, .int p0), (2, .ref ou)] := hl
  refine lv_aload_n hx hb dL_array_0 rfl (lv_at hl 2 rfl) ?_
  refine lv_iconst (v := 0) hx hb dL_array_1 (by decide) ?_
  refine lv_aload_n hx hb dL_array_2 rfl (lv_at hl 0 rfl) ?_
  refine lv_iload_n hx hb dL_array_3 rfl (lv_at hl 1 rfl) ?_
  have hPc := hP.sub (ws' := [(h0, .inr (5, [.ref s0, .ref de, .ref kl, .ref tl, .ref cu, .ref hk, .ref ca, .int 0, .int 0, .int (-1), .int 0, .int 0])), (kl, .inr (2, [.ref kx, .ref ky, .int 0])), (tl, .inr (4, [.ref tx, .ref ty, .int 1])), (s0, .inr (3, [.ref a0, .ref a1, .ref a2, .ref a3, .ref a4, .ref a5, .ref a6, .int 0, .ref a7, .ref a8, .ref a9, .ref a10, .ref a11, .int 0])), (a0, .inl (C 0, 600, .inl f0)), (a1, .inl (C 0, 600, .inl f1)), (a2, .inl (C 1, 600, .inl f2)), (a3, .inl (C 0, 600, .inl f3)), (a7, .inl (C 0, 5999, .inl f7)), (a8, .inl (C 0, 5999, .inl f8)), (a9, .inl (C 0, 5999, .inl f9)), (a10, .inl (C 0, 5999, .inl f10)), (a11, .inl (C 0, 5999, .inl f11))]) [0, 1, 2, 3, 4, 5, 6, 7, 8, 9, 10, 11, 12] rfl
  have hDc := hD.sub (ws' := [(h0, .inr (5, [.ref s0, .ref de, .ref kl, .ref tl, .ref cu, .ref hk, .ref ca, .int 0, .int 0, .int (-1), .int 0, .int 0])), (kl, .inr (2, [.ref kx, .ref ky, .int 0])), (tl, .inr (4, [.ref tx, .ref ty, .int 1])), (s0, .inr (3, [.ref a0, .ref a1, .ref a2, .ref a3, .ref a4, .ref a5, .ref a6, .int 0, .ref a7, .ref a8, .ref a9, .ref a10, .ref a11, .int 0])), (a0, .inl (C 0, 600, .inl f0)), (a1, .inl (C 0, 600, .inl f1)), (a2, .inl (C 1, 600, .inl f2)), (a3, .inl (C 0, 600, .inl f3)), (a7, .inl (C 0, 5999, .inl f7)), (a8, .inl (C 0, 5999, .inl f8)), (a9, .inl (C 0, 5999, .inl f9)), (a10, .inl (C 0, 5999, .inl f10)), (a11, .inl (C 0, 5999, .inl f11))]) [0, 1, 2, 3, 4, 5, 6, 7, 8, 9, 10, 11, 12] (by decide) rfl
  have hFc := va_free (wc := [(h0, .inr (5, [.ref s0, .ref de, .ref kl, .ref tl, .ref cu, .ref hk, .ref ca, .int 0, .int 0, .int (-1), .int 0, .int 0])), (kl, .inr (2, [.ref kx, .ref ky, .int 0])), (tl, .inr (4, [.ref tx, .ref ty, .int 1])), (s0, .inr (3, [.ref a0, .ref a1, .ref a2, .ref a3, .ref a4, .ref a5, .ref a6, .int 0, .ref a7, .ref a8, .ref a9, .ref a10, .ref a11, .int 0])), (a0, .inl (C 0, 600, .inl f0)), (a1, .inl (C 0, 600, .inl f1)), (a2, .inl (C 1, 600, .inl f2)), (a3, .inl (C 0, 600, .inl f3)), (a7, .inl (C 0, 5999, .inl f7)), (a8, .inl (C 0, 5999, .inl f8)), (a9, .inl (C 0, 5999, .inl f9)), (a10, .inl (C 0, 5999, .inl f10)), (a11, .inl (C 0, 5999, .inl f11))]) hD hS hA [0, 1, 2, 3, 4, 5, 6, 7, 8, 9, 10, 11, 12] rfl
  refine vx_calli (vx_runV (As := [.int p0]) (rest := [.int 0, .ref ou]) ⟨hx, hb, hml, hown, ht⟩ (k5_array l hl0 D C b0 s.heap.size h0 s0 de kl tl cu hk ca kx ky tx ty a0 a1 a2 a3 a4 a5 a6 a7 a8 a9 a10 a11 f0 f1 f2 f3 f7 f8 f9 f10 f11 p0) (cwV 1 ht (xg_V m_493 m_494 m_495 m_281 m_180) rfl rfl rfl (by decide +kernel) ⟨Nat.le_of_ble_eq_true rfl, Nat.le_of_ble_eq_true rfl⟩) ⟨xPc_bl, va_recv hK hPc (ci := 5) (q0 := 0) rfl rfl, xPc_at hPc hK hDc hE hS hAb⟩ rfl rfl hl.1 rfl (lv_room (Nat.le_of_ble_eq_true rfl)) dL_array_4 ⟨(by decide), (by decide)⟩) hS (fun q _ h => hFc q h) hFc (fun q _ h => hFc q h) (fun E ce q9 u9 t9 H9 locs9 e9 v9 p9 b9 z9 k9 hS9 hc9 hn9 hf9 => ?_) (fun r_1 u_2 t H1 locs ht1 hvm hw hB hz1 hk1 hS => ?_)
  · skip
    obtain rfl := b9
    obtain ⟨hP, hD⟩ := va_join (wr := [(ou, .inl (C 2, 1, .inr (.inl fo)))]) (w1 := []) hP hD [0, 1, 2, 3, 4, 5, 6, 7, 8, 9, 10, 11, 12] [13] rfl rfl (by decide) (by decide) k9 hFc (fun k q h => by simp at h) ⟨fun i j p q h => by simp at h, fun k q h => by simp at h⟩
    have hP : va_P D vwCl [(ou, .inl (C 2, 1, .inr (.inl fo)))] H9 := hP
    have hD : va_D A [(ou, .inl (C 2, 1, .inr (.inl fo)))] := hD
    have hS := hS9
    refine x_catch hown ⟨0, 9, 12, 13⟩ [⟨0, 9, 15, 15⟩] (hsplit.trans rfl) (by decide) (by decide) (ht _ m_492) (hE.use (by decide +kernel)) hc9 hn9 hf9 ?_
    refine W.widen (k := 3) (n := 18) (by decide) (by decide) ?_
    refine lv_astore_n (lv' := [(3, .ref q9), (0, .ref h0), (1, .int p0), (2, .ref ou)]) hx hb dL_array_12 rfl hl (by decide) rfl (fun ls hl => ?_)
    refine lv_iconst (v := 1) hx hb dL_array_13 (by decide) ?_
    have hP9 := hP.sub (ws' := [(ou, .inl (C 2, 1, .inr (.inl fo)))]) [0] rfl
    have hD9 := hD.sub (ws' := [(ou, .inl (C 2, 1, .inr (.inl fo)))]) [0] (by decide) rfl
    refine W.widen (k := 3) (n := 18) (by decide) (by decide) ?_
    exact W.iret (v := 1) hx hb hr (fun t ht1 hW => ⟨⟨1, fo, rfl, Or.inr ⟨p9, rfl⟩, by rw [ht1]; exact hP9, hD9⟩, hS.F ht1⟩) hS.2.2 dL_array_14
  · skip
    obtain ⟨hP1, hD1⟩ := hB
    rw [ht1] at hP1
    try dsimp only at hw
    obtain ⟨hP, hD⟩ := va_join (wr := [(ou, .inl (C 2, 1, .inr (.inl fo)))]) (w1 := []) hP hD [0, 1, 2, 3, 4, 5, 6, 7, 8, 9, 10, 11, 12] [13] rfl rfl (by decide) (by decide) hk1 hFc hP1 hD1
    generalize H1 = H at hP hS ⊢
    have hP : va_P D vwCl [(ou, .inl (C 2, 1, .inr (.inl fo)))] H := hP
    have hD : va_D A [(ou, .inl (C 2, 1, .inr (.inl fo)))] := hD
    have hq_4 := hw
    obtain rfl : r_1 = (-2 : Int32) := hw.2
    refine W.widen (k := 3) (n := 18) (by decide) (by decide) ?_
    refine lv_i2l hx hb dL_array_7 rfl ?_
    refine va_last hx hb hK hP hD hS 0 2 rfl rfl (by unfold vp_in; decide) dL_array_8 (fun H locs hP hD hS => ?_)
    have hP : va_P D vwCl [(ou, .inl (C 2, 1, .inr (.inl ((vp_updL fo (Int32.toNatClampNeg 0) (Int32.toInt64 (-2)))))))] H := hP
    have hD : va_D A [(ou, .inl (C 2, 1, .inr (.inl ((vp_updL fo (Int32.toNatClampNeg 0) (Int32.toInt64 (-2)))))))] := hD
    refine lv_goto (tgt := 18) hx hb dL_array_9 (by decide) ?_
    refine lv_iconst (v := 0) hx hb dL_array_18 (by decide) ?_
    have hP9 := hP.sub (ws' := [(ou, .inl (C 2, 1, .inr (.inl ((vp_updL fo (Int32.toNatClampNeg 0) (Int32.toInt64 (-2)))))))]) [0] rfl
    have hD9 := hD.sub (ws' := [(ou, .inl (C 2, 1, .inr (.inl ((vp_updL fo (Int32.toNatClampNeg 0) (Int32.toInt64 (-2)))))))]) [0] (by decide) rfl
    refine W.widen (k := 3) (n := 18) (by decide) (by decide) ?_
    exact W.iret (v := 0) hx hb hr (fun t ht1 hW => ⟨⟨0, (vp_updL fo (Int32.toNatClampNeg 0) (Int32.toInt64 (-2))), rfl, Or.inl ⟨hq_4.1, rfl, x_uL0 ⟩, by rw [ht1]; exact hP9, hD9⟩, hS.F ht1⟩) hS.2.2 dL_array_19
set_option maxHeartbeats 4000000 in
set_option maxRecDepth 100000 in
theorem kL_function (l : Launch) (hl0 : l.stackTraces = false) (D : va_G) (C : Nat → ClassId) (b0 sz : Nat) (h0 : Nat) (s0 : Nat) (de : Nat) (kl : Nat) (tl : Nat) (cu : Nat) (hk : Nat) (ca : Nat) (kx : Nat) (ky : Nat) (tx : Nat) (ty : Nat) (a0 : Nat) (a1 : Nat) (a2 : Nat) (a3 : Nat) (a4 : Nat) (a5 : Nat) (a6 : Nat) (a7 : Nat) (a8 : Nat) (a9 : Nat) (a10 : Nat) (a11 : Nat) (f0 : Nat → Int32) (f1 : Nat → Int32) (f2 : Nat → Int32) (f3 : Nat → Int32) (f4 : Nat → Int32) (f5 : Nat → Int32) (f6 : Nat → Int32) (p0 : Int32) (p1 : Int32) (p2 : Int32) (ou : Nat) (fo : Nat → Int64) : Met l yL_function (xwh yL_function cL_function 6 (some .int) [(0, 12, 15, 13), (0, 12, 19, 15)]) ({ frames := 64, cells := 3, slots := 18, locals := 1200 }) (xPc D C b0 [.ref h0, .int p0, .int p1, .int p2, .ref ou] [(h0, .inr (5, [.ref s0, .ref de, .ref kl, .ref tl, .ref cu, .ref hk, .ref ca, .int 0, .int 0, .int (-1), .int 0, .int 0])), (kl, .inr (2, [.ref kx, .ref ky, .int 0])), (tl, .inr (4, [.ref tx, .ref ty, .int 1])), (s0, .inr (3, [.ref a0, .ref a1, .ref a2, .ref a3, .ref a4, .ref a5, .ref a6, .int 0, .ref a7, .ref a8, .ref a9, .ref a10, .ref a11, .int 0])), (a0, .inl (C 0, 600, .inl f0)), (a1, .inl (C 0, 600, .inl f1)), (a2, .inl (C 1, 600, .inl f2)), (a3, .inl (C 0, 600, .inl f3)), (a4, .inl (C 0, 600, .inl f4)), (a5, .inl (C 0, 600, .inl f5)), (a6, .inl (C 0, 600, .inl f6)), (ou, .inl (C 2, 1, .inr (.inl fo)))] sz) (va_Qi (fun (r : Int32) (u : Nat → Int64) => (((¬ p0 < 0 ∧ p0 ≤ 5) ∧ (¬ p1 < 0 ∧ p1 < 250) ∧ ¬ p2 < -1 ∧ ¬ 1250 ≤ p2) ∧ r = 0 ∧ u 0 = Int32.toInt64 (-2)) ∨ (¬ ((¬ p0 < 0 ∧ p0 ≤ 5) ∧ (¬ p1 < 0 ∧ p1 < 250) ∧ ¬ p2 < -1 ∧ ¬ 1250 ≤ p2) ∧ r = 1)) (xBw D (va_A [(h0, .inr (5, [.ref s0, .ref de, .ref kl, .ref tl, .ref cu, .ref hk, .ref ca, .int 0, .int 0, .int (-1), .int 0, .int 0])), (kl, .inr (2, [.ref kx, .ref ky, .int 0])), (tl, .inr (4, [.ref tx, .ref ty, .int 1])), (s0, .inr (3, [.ref a0, .ref a1, .ref a2, .ref a3, .ref a4, .ref a5, .ref a6, .int 0, .ref a7, .ref a8, .ref a9, .ref a10, .ref a11, .int 0])), (a0, .inl (C 0, 600, .inl f0)), (a1, .inl (C 0, 600, .inl f1)), (a2, .inl (C 1, 600, .inl f2)), (a3, .inl (C 0, 600, .inl f3)), (a4, .inl (C 0, 600, .inl f4)), (a5, .inl (C 0, 600, .inl f5)), (a6, .inl (C 0, 600, .inl f6)), (ou, .inl (C 2, 1, .inr (.inl fo)))] sz) (fun u => [(ou, .inl (C 2, 1, .inr (.inl (u))))])) (va_A [(h0, .inr (5, [.ref s0, .ref de, .ref kl, .ref tl, .ref cu, .ref hk, .ref ca, .int 0, .int 0, .int (-1), .int 0, .int 0])), (kl, .inr (2, [.ref kx, .ref ky, .int 0])), (tl, .inr (4, [.ref tx, .ref ty, .int 1])), (s0, .inr (3, [.ref a0, .ref a1, .ref a2, .ref a3, .ref a4, .ref a5, .ref a6, .int 0, .ref a7, .ref a8, .ref a9, .ref a10, .ref a11, .int 0])), (a0, .inl (C 0, 600, .inl f0)), (a1, .inl (C 0, 600, .inl f1)), (a2, .inl (C 1, 600, .inl f2)), (a3, .inl (C 0, 600, .inl f3)), (a4, .inl (C 0, 600, .inl f4)), (a5, .inl (C 0, 600, .inl f5)), (a6, .inl (C 0, 600, .inl f6)), (ou, .inl (C 2, 1, .inr (.inl fo)))] sz)) 3 18 (va_A [(h0, .inr (5, [.ref s0, .ref de, .ref kl, .ref tl, .ref cu, .ref hk, .ref ca, .int 0, .int 0, .int (-1), .int 0, .int 0])), (kl, .inr (2, [.ref kx, .ref ky, .int 0])), (tl, .inr (4, [.ref tx, .ref ty, .int 1])), (s0, .inr (3, [.ref a0, .ref a1, .ref a2, .ref a3, .ref a4, .ref a5, .ref a6, .int 0, .ref a7, .ref a8, .ref a9, .ref a10, .ref a11, .int 0])), (a0, .inl (C 0, 600, .inl f0)), (a1, .inl (C 0, 600, .inl f1)), (a2, .inl (C 1, 600, .inl f2)), (a3, .inl (C 0, 600, .inl f3)), (a4, .inl (C 0, 600, .inl f4)), (a5, .inl (C 0, 600, .inl f5)), (a6, .inl (C 0, 600, .inl f6)), (ou, .inl (C 2, 1, .inr (.inl fo)))] sz) := by
  refine va_MetW (cc := cL_function) (maxL := 6) (ret := (some .int)) (by decide) rfl ?_
  intro p e s m args below meth c s₁ B hml hv
  obtain ⟨rfl, hsz, hP, hK, hD0, hE⟩ := hv
  have hx := B.exec
  have hb := B.bytes
  have hr := B.returns
  have ht : ∀ w ∈ xb, w.before _ s = true := fun w h => atoms_spec (ws := xwh yL_function cL_function 6 (some .int) [(0, 12, 15, 13), (0, 12, 19, 15)]) B.pre w (List.mem_cons_of_mem _ h)
  have hown : s.vm.findClass RL = some m.cls := findClass_of_methodNamed B.named
  have hlocks := B.notSynchronized
  have hsplit := vx_table (x := yL_function) B (atoms_spec (ws := xwh yL_function cL_function 6 (some .int) [(0, 12, 15, 13), (0, 12, 19, 15)]) B.pre _ List.mem_cons_self)
  subst hsz
  have hAb := x_Ab hD0 hE.1
  have hD := hD0.self (sz := s.heap.size)
  generalize hAe : va_A [(h0, .inr (5, [.ref s0, .ref de, .ref kl, .ref tl, .ref cu, .ref hk, .ref ca, .int 0, .int 0, .int (-1), .int 0, .int 0])), (kl, .inr (2, [.ref kx, .ref ky, .int 0])), (tl, .inr (4, [.ref tx, .ref ty, .int 1])), (s0, .inr (3, [.ref a0, .ref a1, .ref a2, .ref a3, .ref a4, .ref a5, .ref a6, .int 0, .ref a7, .ref a8, .ref a9, .ref a10, .ref a11, .int 0])), (a0, .inl (C 0, 600, .inl f0)), (a1, .inl (C 0, 600, .inl f1)), (a2, .inl (C 1, 600, .inl f2)), (a3, .inl (C 0, 600, .inl f3)), (a4, .inl (C 0, 600, .inl f4)), (a5, .inl (C 0, 600, .inl f5)), (a6, .inl (C 0, 600, .inl f6)), (ou, .inl (C 2, 1, .inr (.inl fo)))] s.heap.size = A at hD hAb ⊢
  have hA : ∀ q : Nat, s.heap.size ≤ q → A q := fun q h => by rw [← hAe]; exact Or.inr h
  have hS : va_S A s.heap s.heap [] := va_S.rf
  have hP : va_P D vwCl [(h0, .inr (5, [.ref s0, .ref de, .ref kl, .ref tl, .ref cu, .ref hk, .ref ca, .int 0, .int 0, .int (-1), .int 0, .int 0])), (kl, .inr (2, [.ref kx, .ref ky, .int 0])), (tl, .inr (4, [.ref tx, .ref ty, .int 1])), (s0, .inr (3, [.ref a0, .ref a1, .ref a2, .ref a3, .ref a4, .ref a5, .ref a6, .int 0, .ref a7, .ref a8, .ref a9, .ref a10, .ref a11, .int 0])), (a0, .inl (C 0, 600, .inl f0)), (a1, .inl (C 0, 600, .inl f1)), (a2, .inl (C 1, 600, .inl f2)), (a3, .inl (C 0, 600, .inl f3)), (a4, .inl (C 0, 600, .inl f4)), (a5, .inl (C 0, 600, .inl f5)), (a6, .inl (C 0, 600, .inl f6)), (ou, .inl (C 2, 1, .inr (.inl fo)))] s.heap := hP
  have hl := lv_entry ([.ref h0, .int p0, .int p1, .int p2, .ref ou]) (n := 6) (Nat.le_of_ble_eq_true rfl)
  rw [lg_entry_eq]
  generalize (lg_sl ([.ref h0, .int p0, .int p1, .int p2, .ref ou]) ++ List.replicate (6 - (lg_sl ([.ref h0, .int p0, .int p1, .int p2, .ref ou])).length) Slot.unset).toArray = ls at hl ⊢
  have hl : lv_has ls 6 [(0, .ref h0), (1, .int p0), (2, .int p1), (3, .int p2), (4, .ref ou)] := hl
  refine lv_aload hx hb dL_function_0 (lv_at hl 4 rfl) ?_
  refine lv_iconst (v := 0) hx hb dL_function_2 (by decide) ?_
  refine lv_aload_n hx hb dL_function_3 rfl (lv_at hl 0 rfl) ?_
  refine lv_iload_n hx hb dL_function_4 rfl (lv_at hl 1 rfl) ?_
  refine lv_iload_n hx hb dL_function_5 rfl (lv_at hl 2 rfl) ?_
  refine lv_iload_n hx hb dL_function_6 rfl (lv_at hl 3 rfl) ?_
  have hPc := hP.sub (ws' := [(h0, .inr (5, [.ref s0, .ref de, .ref kl, .ref tl, .ref cu, .ref hk, .ref ca, .int 0, .int 0, .int (-1), .int 0, .int 0])), (kl, .inr (2, [.ref kx, .ref ky, .int 0])), (tl, .inr (4, [.ref tx, .ref ty, .int 1])), (s0, .inr (3, [.ref a0, .ref a1, .ref a2, .ref a3, .ref a4, .ref a5, .ref a6, .int 0, .ref a7, .ref a8, .ref a9, .ref a10, .ref a11, .int 0])), (a0, .inl (C 0, 600, .inl f0)), (a1, .inl (C 0, 600, .inl f1)), (a2, .inl (C 1, 600, .inl f2)), (a3, .inl (C 0, 600, .inl f3)), (a4, .inl (C 0, 600, .inl f4)), (a5, .inl (C 0, 600, .inl f5)), (a6, .inl (C 0, 600, .inl f6))]) [0, 1, 2, 3, 4, 5, 6, 7, 8, 9, 10] rfl
  have hDc := hD.sub (ws' := [(h0, .inr (5, [.ref s0, .ref de, .ref kl, .ref tl, .ref cu, .ref hk, .ref ca, .int 0, .int 0, .int (-1), .int 0, .int 0])), (kl, .inr (2, [.ref kx, .ref ky, .int 0])), (tl, .inr (4, [.ref tx, .ref ty, .int 1])), (s0, .inr (3, [.ref a0, .ref a1, .ref a2, .ref a3, .ref a4, .ref a5, .ref a6, .int 0, .ref a7, .ref a8, .ref a9, .ref a10, .ref a11, .int 0])), (a0, .inl (C 0, 600, .inl f0)), (a1, .inl (C 0, 600, .inl f1)), (a2, .inl (C 1, 600, .inl f2)), (a3, .inl (C 0, 600, .inl f3)), (a4, .inl (C 0, 600, .inl f4)), (a5, .inl (C 0, 600, .inl f5)), (a6, .inl (C 0, 600, .inl f6))]) [0, 1, 2, 3, 4, 5, 6, 7, 8, 9, 10] (by decide) rfl
  have hFc := va_free (wc := [(h0, .inr (5, [.ref s0, .ref de, .ref kl, .ref tl, .ref cu, .ref hk, .ref ca, .int 0, .int 0, .int (-1), .int 0, .int 0])), (kl, .inr (2, [.ref kx, .ref ky, .int 0])), (tl, .inr (4, [.ref tx, .ref ty, .int 1])), (s0, .inr (3, [.ref a0, .ref a1, .ref a2, .ref a3, .ref a4, .ref a5, .ref a6, .int 0, .ref a7, .ref a8, .ref a9, .ref a10, .ref a11, .int 0])), (a0, .inl (C 0, 600, .inl f0)), (a1, .inl (C 0, 600, .inl f1)), (a2, .inl (C 1, 600, .inl f2)), (a3, .inl (C 0, 600, .inl f3)), (a4, .inl (C 0, 600, .inl f4)), (a5, .inl (C 0, 600, .inl f5)), (a6, .inl (C 0, 600, .inl f6))]) hD hS hA [0, 1, 2, 3, 4, 5, 6, 7, 8, 9, 10] rfl
  refine vx_calli (vx_runV (As := [.int p0, .int p1, .int p2]) (rest := [.int 0, .ref ou]) ⟨hx, hb, hml, hown, ht⟩ (k5_function l hl0 D C b0 s.heap.size h0 s0 de kl tl cu hk ca kx ky tx ty a0 a1 a2 a3 a4 a5 a6 a7 a8 a9 a10 a11 f0 f1 f2 f3 f4 f5 f6 p0 p1 p2) (cwV 3 ht (xg_V m_496 m_497 m_498 m_281 m_181) rfl rfl rfl (by decide +kernel) ⟨Nat.le_of_ble_eq_true rfl, Nat.le_of_ble_eq_true rfl⟩) ⟨xPc_bl, va_recv hK hPc (ci := 5) (q0 := 0) rfl rfl, xPc_at hPc hK hDc hE hS hAb⟩ rfl rfl hl.1 rfl (lv_room (Nat.le_of_ble_eq_true rfl)) dL_function_7 ⟨(by decide), (by decide)⟩) hS (fun q _ h => hFc q h) hFc (fun q _ h => hFc q h) (fun E ce q9 u9 t9 H9 locs9 e9 v9 p9 b9 z9 k9 hS9 hc9 hn9 hf9 => ?_) (fun r_1 u_2 t H1 locs ht1 hvm hw hB hz1 hk1 hS => ?_)
  · skip
    obtain rfl := b9
    obtain ⟨hP, hD⟩ := va_join (wr := [(ou, .inl (C 2, 1, .inr (.inl fo)))]) (w1 := []) hP hD [0, 1, 2, 3, 4, 5, 6, 7, 8, 9, 10] [11] rfl rfl (by decide) (by decide) k9 hFc (fun k q h => by simp at h) ⟨fun i j p q h => by simp at h, fun k q h => by simp at h⟩
    have hP : va_P D vwCl [(ou, .inl (C 2, 1, .inr (.inl fo)))] H9 := hP
    have hD : va_D A [(ou, .inl (C 2, 1, .inr (.inl fo)))] := hD
    have hS := hS9
    refine x_catch hown ⟨0, 12, 15, 13⟩ [⟨0, 12, 19, 15⟩] (hsplit.trans rfl) (by decide) (by decide) (ht _ m_492) (hE.use (by decide +kernel)) hc9 hn9 hf9 ?_
    refine W.widen (k := 3) (n := 18) (by decide) (by decide) ?_
    refine lv_astore (lv' := [(5, .ref q9), (0, .ref h0), (1, .int p0), (2, .int p1), (3, .int p2), (4, .ref ou)]) hx hb dL_function_15 hl (by decide) rfl (fun ls hl => ?_)
    refine lv_iconst (v := 1) hx hb dL_function_17 (by decide) ?_
    have hP9 := hP.sub (ws' := [(ou, .inl (C 2, 1, .inr (.inl fo)))]) [0] rfl
    have hD9 := hD.sub (ws' := [(ou, .inl (C 2, 1, .inr (.inl fo)))]) [0] (by decide) rfl
    refine W.widen (k := 3) (n := 18) (by decide) (by decide) ?_
    exact W.iret (v := 1) hx hb hr (fun t ht1 hW => ⟨⟨1, fo, rfl, by first | trivial | rfl | assumption | decide | (simp_all; done), by rw [ht1]; exact hP9, hD9⟩, hS.F ht1⟩) hS.2.2 dL_function_18
  · skip
    obtain ⟨hP1, hD1⟩ := hB
    rw [ht1] at hP1
    try dsimp only at hw
    obtain ⟨hP, hD⟩ := va_join (wr := [(ou, .inl (C 2, 1, .inr (.inl fo)))]) (w1 := []) hP hD [0, 1, 2, 3, 4, 5, 6, 7, 8, 9, 10] [11] rfl rfl (by decide) (by decide) hk1 hFc hP1 hD1
    generalize H1 = H at hP hS ⊢
    have hP : va_P D vwCl [(ou, .inl (C 2, 1, .inr (.inl fo)))] H := hP
    have hD : va_D A [(ou, .inl (C 2, 1, .inr (.inl fo)))] := hD
    have hq_7 := hw
    obtain rfl : r_1 = (-2 : Int32) := hw.2
    refine W.widen (k := 3) (n := 18) (by decide) (by decide) ?_
    refine lv_i2l hx hb dL_function_10 rfl ?_
    refine va_last hx hb hK hP hD hS 0 2 rfl rfl (by unfold vp_in; decide) dL_function_11 (fun H locs hP hD hS => ?_)
    have hP : va_P D vwCl [(ou, .inl (C 2, 1, .inr (.inl ((vp_updL fo (Int32.toNatClampNeg 0) (Int32.toInt64 (-2)))))))] H := hP
    have hD : va_D A [(ou, .inl (C 2, 1, .inr (.inl ((vp_updL fo (Int32.toNatClampNeg 0) (Int32.toInt64 (-2)))))))] := hD
    refine lv_goto (tgt := 23) hx hb dL_function_12 (by decide) ?_
    refine lv_iconst (v := 0) hx hb dL_function_23 (by decide) ?_
    have hP9 := hP.sub (ws' := [(ou, .inl (C 2, 1, .inr (.inl ((vp_updL fo (Int32.toNatClampNeg 0) (Int32.toInt64 (-2)))))))]) [0] rfl
    have hD9 := hD.sub (ws' := [(ou, .inl (C 2, 1, .inr (.inl ((vp_updL fo (Int32.toNatClampNeg 0) (Int32.toInt64 (-2)))))))]) [0] (by decide) rfl
    refine W.widen (k := 3) (n := 18) (by decide) (by decide) ?_
    exact W.iret (v := 0) hx hb hr (fun t ht1 hW => ⟨⟨0, (vp_updL fo (Int32.toNatClampNeg 0) (Int32.toInt64 (-2))), rfl, Or.inl ⟨hq_7.1, rfl, x_uL0 ⟩, by rw [ht1]; exact hP9, hD9⟩, hS.F ht1⟩) hS.2.2 dL_function_24
set_option maxHeartbeats 4000000 in
set_option maxRecDepth 100000 in
theorem kL_proxy (l : Launch) (hl0 : l.stackTraces = false) (D : va_G) (C : Nat → ClassId) (b0 sz : Nat) (h0 : Nat) (s0 : Nat) (de : Nat) (kl : Nat) (tl : Nat) (cu : Nat) (hk : Nat) (ca : Nat) (kx : Nat) (ky : Nat) (tx : Nat) (ty : Nat) (a0 : Nat) (a1 : Nat) (a2 : Nat) (a3 : Nat) (a4 : Nat) (a5 : Nat) (a6 : Nat) (a7 : Nat) (a8 : Nat) (a9 : Nat) (a10 : Nat) (a11 : Nat) (p0 : Int32) (p1 : Int32) (ou : Nat) (fo : Nat → Int64) : Met l yL_proxy (xwh yL_proxy cL_proxy 5 (some .int) [(0, 10, 13, 13), (0, 10, 17, 15)]) ({ frames := 64, cells := 3, slots := 18, locals := 1200 }) (xPc D C b0 [.ref h0, .int p0, .int p1, .ref ou] [(h0, .inr (5, [.ref s0, .ref de, .ref kl, .ref tl, .ref cu, .ref hk, .ref ca, .int 0, .int 0, .int (-1), .int 0, .int 0])), (kl, .inr (2, [.ref kx, .ref ky, .int 0])), (tl, .inr (4, [.ref tx, .ref ty, .int 1])), (s0, .inr (3, [.ref a0, .ref a1, .ref a2, .ref a3, .ref a4, .ref a5, .ref a6, .int 0, .ref a7, .ref a8, .ref a9, .ref a10, .ref a11, .int 0])), (ou, .inl (C 2, 1, .inr (.inl fo)))] sz) (va_Qi (fun (r : Int32) (u : Nat → Int64) => r = 1) (xBw D (va_A [(h0, .inr (5, [.ref s0, .ref de, .ref kl, .ref tl, .ref cu, .ref hk, .ref ca, .int 0, .int 0, .int (-1), .int 0, .int 0])), (kl, .inr (2, [.ref kx, .ref ky, .int 0])), (tl, .inr (4, [.ref tx, .ref ty, .int 1])), (s0, .inr (3, [.ref a0, .ref a1, .ref a2, .ref a3, .ref a4, .ref a5, .ref a6, .int 0, .ref a7, .ref a8, .ref a9, .ref a10, .ref a11, .int 0])), (ou, .inl (C 2, 1, .inr (.inl fo)))] sz) (fun u => [(ou, .inl (C 2, 1, .inr (.inl (u))))])) (va_A [(h0, .inr (5, [.ref s0, .ref de, .ref kl, .ref tl, .ref cu, .ref hk, .ref ca, .int 0, .int 0, .int (-1), .int 0, .int 0])), (kl, .inr (2, [.ref kx, .ref ky, .int 0])), (tl, .inr (4, [.ref tx, .ref ty, .int 1])), (s0, .inr (3, [.ref a0, .ref a1, .ref a2, .ref a3, .ref a4, .ref a5, .ref a6, .int 0, .ref a7, .ref a8, .ref a9, .ref a10, .ref a11, .int 0])), (ou, .inl (C 2, 1, .inr (.inl fo)))] sz)) 3 18 (va_A [(h0, .inr (5, [.ref s0, .ref de, .ref kl, .ref tl, .ref cu, .ref hk, .ref ca, .int 0, .int 0, .int (-1), .int 0, .int 0])), (kl, .inr (2, [.ref kx, .ref ky, .int 0])), (tl, .inr (4, [.ref tx, .ref ty, .int 1])), (s0, .inr (3, [.ref a0, .ref a1, .ref a2, .ref a3, .ref a4, .ref a5, .ref a6, .int 0, .ref a7, .ref a8, .ref a9, .ref a10, .ref a11, .int 0])), (ou, .inl (C 2, 1, .inr (.inl fo)))] sz) := by
  refine va_MetW (cc := cL_proxy) (maxL := 5) (ret := (some .int)) (by decide) rfl ?_
  intro p e s m args below meth c s₁ B hml hv
  obtain ⟨rfl, hsz, hP, hK, hD0, hE⟩ := hv
  have hx := B.exec
  have hb := B.bytes
  have hr := B.returns
  have ht : ∀ w ∈ xb, w.before _ s = true := fun w h => atoms_spec (ws := xwh yL_proxy cL_proxy 5 (some .int) [(0, 10, 13, 13), (0, 10, 17, 15)]) B.pre w (List.mem_cons_of_mem _ h)
  have hown : s.vm.findClass RL = some m.cls := findClass_of_methodNamed B.named
  have hlocks := B.notSynchronized
  have hsplit := vx_table (x := yL_proxy) B (atoms_spec (ws := xwh yL_proxy cL_proxy 5 (some .int) [(0, 10, 13, 13), (0, 10, 17, 15)]) B.pre _ List.mem_cons_self)
  subst hsz
  have hAb := x_Ab hD0 hE.1
  have hD := hD0.self (sz := s.heap.size)
  generalize hAe : va_A [(h0, .inr (5, [.ref s0, .ref de, .ref kl, .ref tl, .ref cu, .ref hk, .ref ca, .int 0, .int 0, .int (-1), .int 0, .int 0])), (kl, .inr (2, [.ref kx, .ref ky, .int 0])), (tl, .inr (4, [.ref tx, .ref ty, .int 1])), (s0, .inr (3, [.ref a0, .ref a1, .ref a2, .ref a3, .ref a4, .ref a5, .ref a6, .int 0, .ref a7, .ref a8, .ref a9, .ref a10, .ref a11, .int 0])), (ou, .inl (C 2, 1, .inr (.inl fo)))] s.heap.size = A at hD hAb ⊢
  have hA : ∀ q : Nat, s.heap.size ≤ q → A q := fun q h => by rw [← hAe]; exact Or.inr h
  have hS : va_S A s.heap s.heap [] := va_S.rf
  have hP : va_P D vwCl [(h0, .inr (5, [.ref s0, .ref de, .ref kl, .ref tl, .ref cu, .ref hk, .ref ca, .int 0, .int 0, .int (-1), .int 0, .int 0])), (kl, .inr (2, [.ref kx, .ref ky, .int 0])), (tl, .inr (4, [.ref tx, .ref ty, .int 1])), (s0, .inr (3, [.ref a0, .ref a1, .ref a2, .ref a3, .ref a4, .ref a5, .ref a6, .int 0, .ref a7, .ref a8, .ref a9, .ref a10, .ref a11, .int 0])), (ou, .inl (C 2, 1, .inr (.inl fo)))] s.heap := hP
  have hl := lv_entry ([.ref h0, .int p0, .int p1, .ref ou]) (n := 5) (Nat.le_of_ble_eq_true rfl)
  rw [lg_entry_eq]
  generalize (lg_sl ([.ref h0, .int p0, .int p1, .ref ou]) ++ List.replicate (5 - (lg_sl ([.ref h0, .int p0, .int p1, .ref ou])).length) Slot.unset).toArray = ls at hl ⊢
  have hl : lv_has ls 5 [(0, .ref h0), (1, .int p0), (2, .int p1), (3, .ref ou)] := hl
  refine lv_aload_n hx hb dL_proxy_0 rfl (lv_at hl 3 rfl) ?_
  refine lv_iconst (v := 0) hx hb dL_proxy_1 (by decide) ?_
  refine lv_aload_n hx hb dL_proxy_2 rfl (lv_at hl 0 rfl) ?_
  refine lv_iload_n hx hb dL_proxy_3 rfl (lv_at hl 1 rfl) ?_
  refine lv_iload_n hx hb dL_proxy_4 rfl (lv_at hl 2 rfl) ?_
  have hPc := hP.sub (ws' := [(h0, .inr (5, [.ref s0, .ref de, .ref kl, .ref tl, .ref cu, .ref hk, .ref ca, .int 0, .int 0, .int (-1), .int 0, .int 0])), (kl, .inr (2, [.ref kx, .ref ky, .int 0])), (tl, .inr (4, [.ref tx, .ref ty, .int 1])), (s0, .inr (3, [.ref a0, .ref a1, .ref a2, .ref a3, .ref a4, .ref a5, .ref a6, .int 0, .ref a7, .ref a8, .ref a9, .ref a10, .ref a11, .int 0]))]) [0, 1, 2, 3] rfl
  have hDc := hD.sub (ws' := [(h0, .inr (5, [.ref s0, .ref de, .ref kl, .ref tl, .ref cu, .ref hk, .ref ca, .int 0, .int 0, .int (-1), .int 0, .int 0])), (kl, .inr (2, [.ref kx, .ref ky, .int 0])), (tl, .inr (4, [.ref tx, .ref ty, .int 1])), (s0, .inr (3, [.ref a0, .ref a1, .ref a2, .ref a3, .ref a4, .ref a5, .ref a6, .int 0, .ref a7, .ref a8, .ref a9, .ref a10, .ref a11, .int 0]))]) [0, 1, 2, 3] (by decide) rfl
  have hFc := va_free (wc := [(h0, .inr (5, [.ref s0, .ref de, .ref kl, .ref tl, .ref cu, .ref hk, .ref ca, .int 0, .int 0, .int (-1), .int 0, .int 0])), (kl, .inr (2, [.ref kx, .ref ky, .int 0])), (tl, .inr (4, [.ref tx, .ref ty, .int 1])), (s0, .inr (3, [.ref a0, .ref a1, .ref a2, .ref a3, .ref a4, .ref a5, .ref a6, .int 0, .ref a7, .ref a8, .ref a9, .ref a10, .ref a11, .int 0]))]) hD hS hA [0, 1, 2, 3] rfl
  refine vx_calli (vx_runV (As := [.int p0, .int p1]) (rest := [.int 0, .ref ou]) ⟨hx, hb, hml, hown, ht⟩ (k5_proxy l hl0 D C b0 s.heap.size h0 s0 de kl tl cu hk ca kx ky tx ty a0 a1 a2 a3 a4 a5 a6 a7 a8 a9 a10 a11 p0 p1) (cwV 2 ht (xg_V m_499 m_500 m_501 m_281 m_182) rfl rfl rfl (by decide +kernel) ⟨Nat.le_of_ble_eq_true rfl, Nat.le_of_ble_eq_true rfl⟩) ⟨xPc_bl, va_recv hK hPc (ci := 5) (q0 := 0) rfl rfl, xPc_at hPc hK hDc hE hS hAb⟩ rfl rfl hl.1 rfl (lv_room (Nat.le_of_ble_eq_true rfl)) dL_proxy_5 ⟨(by decide), (by decide)⟩) hS (fun q _ h => hFc q h) hFc (fun q _ h => hFc q h) (fun E ce q9 u9 t9 H9 locs9 e9 v9 p9 b9 z9 k9 hS9 hc9 hn9 hf9 => ?_) (fun r_1 u_2 t H1 locs ht1 hvm hw hB hz1 hk1 hS => ?_)
  · skip
    obtain rfl := b9
    obtain ⟨hP, hD⟩ := va_join (wr := [(ou, .inl (C 2, 1, .inr (.inl fo)))]) (w1 := []) hP hD [0, 1, 2, 3] [4] rfl rfl (by decide) (by decide) k9 hFc (fun k q h => by simp at h) ⟨fun i j p q h => by simp at h, fun k q h => by simp at h⟩
    have hP : va_P D vwCl [(ou, .inl (C 2, 1, .inr (.inl fo)))] H9 := hP
    have hD : va_D A [(ou, .inl (C 2, 1, .inr (.inl fo)))] := hD
    have hS := hS9
    refine x_catch hown ⟨0, 10, 13, 13⟩ [⟨0, 10, 17, 15⟩] (hsplit.trans rfl) (by decide) (by decide) (ht _ m_492) (hE.use (by decide +kernel)) hc9 hn9 hf9 ?_
    refine W.widen (k := 3) (n := 18) (by decide) (by decide) ?_
    refine lv_astore (lv' := [(4, .ref q9), (0, .ref h0), (1, .int p0), (2, .int p1), (3, .ref ou)]) hx hb dL_proxy_13 hl (by decide) rfl (fun ls hl => ?_)
    refine lv_iconst (v := 1) hx hb dL_proxy_15 (by decide) ?_
    have hP9 := hP.sub (ws' := [(ou, .inl (C 2, 1, .inr (.inl fo)))]) [0] rfl
    have hD9 := hD.sub (ws' := [(ou, .inl (C 2, 1, .inr (.inl fo)))]) [0] (by decide) rfl
    refine W.widen (k := 3) (n := 18) (by decide) (by decide) ?_
    exact W.iret (v := 1) hx hb hr (fun t ht1 hW => ⟨⟨1, fo, rfl, by first | trivial | rfl | assumption | decide | (simp_all; done), by rw [ht1]; exact hP9, hD9⟩, hS.F ht1⟩) hS.2.2 dL_proxy_16
  · exact hw.elim
set_option maxHeartbeats 4000000 in
set_option maxRecDepth 100000 in
theorem kL_revoke (l : Launch) (hl0 : l.stackTraces = false) (D : va_G) (C : Nat → ClassId) (b0 sz : Nat) (h0 : Nat) (s0 : Nat) (de : Nat) (kl : Nat) (tl : Nat) (cu : Nat) (hk : Nat) (ca : Nat) (kx : Nat) (ky : Nat) (tx : Nat) (ty : Nat) (a0 : Nat) (a1 : Nat) (a2 : Nat) (a3 : Nat) (a4 : Nat) (a5 : Nat) (a6 : Nat) (a7 : Nat) (a8 : Nat) (a9 : Nat) (a10 : Nat) (a11 : Nat) (p0 : Int32) (ou : Nat) (fo : Nat → Int64) : Met l yL_revoke (xwh yL_revoke cL_revoke 4 (some .int) [(0, 16, 19, 13)]) ({ frames := 64, cells := 3, slots := 18, locals := 1200 }) (xPc D C b0 [.ref h0, .int p0, .ref ou] [(h0, .inr (5, [.ref s0, .ref de, .ref kl, .ref tl, .ref cu, .ref hk, .ref ca, .int 0, .int 0, .int (-1), .int 0, .int 0])), (kl, .inr (2, [.ref kx, .ref ky, .int 0])), (tl, .inr (4, [.ref tx, .ref ty, .int 1])), (s0, .inr (3, [.ref a0, .ref a1, .ref a2, .ref a3, .ref a4, .ref a5, .ref a6, .int 0, .ref a7, .ref a8, .ref a9, .ref a10, .ref a11, .int 0])), (ou, .inl (C 2, 1, .inr (.inl fo)))] sz) (va_Qi (fun (r : Int32) (u : Nat → Int64) => r = 1) (xBw D (va_A [(h0, .inr (5, [.ref s0, .ref de, .ref kl, .ref tl, .ref cu, .ref hk, .ref ca, .int 0, .int 0, .int (-1), .int 0, .int 0])), (kl, .inr (2, [.ref kx, .ref ky, .int 0])), (tl, .inr (4, [.ref tx, .ref ty, .int 1])), (s0, .inr (3, [.ref a0, .ref a1, .ref a2, .ref a3, .ref a4, .ref a5, .ref a6, .int 0, .ref a7, .ref a8, .ref a9, .ref a10, .ref a11, .int 0])), (ou, .inl (C 2, 1, .inr (.inl fo)))] sz) (fun u => [(ou, .inl (C 2, 1, .inr (.inl (u))))])) (va_A [(h0, .inr (5, [.ref s0, .ref de, .ref kl, .ref tl, .ref cu, .ref hk, .ref ca, .int 0, .int 0, .int (-1), .int 0, .int 0])), (kl, .inr (2, [.ref kx, .ref ky, .int 0])), (tl, .inr (4, [.ref tx, .ref ty, .int 1])), (s0, .inr (3, [.ref a0, .ref a1, .ref a2, .ref a3, .ref a4, .ref a5, .ref a6, .int 0, .ref a7, .ref a8, .ref a9, .ref a10, .ref a11, .int 0])), (ou, .inl (C 2, 1, .inr (.inl fo)))] sz)) 3 18 (va_A [(h0, .inr (5, [.ref s0, .ref de, .ref kl, .ref tl, .ref cu, .ref hk, .ref ca, .int 0, .int 0, .int (-1), .int 0, .int 0])), (kl, .inr (2, [.ref kx, .ref ky, .int 0])), (tl, .inr (4, [.ref tx, .ref ty, .int 1])), (s0, .inr (3, [.ref a0, .ref a1, .ref a2, .ref a3, .ref a4, .ref a5, .ref a6, .int 0, .ref a7, .ref a8, .ref a9, .ref a10, .ref a11, .int 0])), (ou, .inl (C 2, 1, .inr (.inl fo)))] sz) := by
  refine va_MetW (cc := cL_revoke) (maxL := 4) (ret := (some .int)) (by decide) rfl ?_
  intro p e s m args below meth c s₁ B hml hv
  obtain ⟨rfl, hsz, hP, hK, hD0, hE⟩ := hv
  have hx := B.exec
  have hb := B.bytes
  have hr := B.returns
  have ht : ∀ w ∈ xb, w.before _ s = true := fun w h => atoms_spec (ws := xwh yL_revoke cL_revoke 4 (some .int) [(0, 16, 19, 13)]) B.pre w (List.mem_cons_of_mem _ h)
  have hown : s.vm.findClass RL = some m.cls := findClass_of_methodNamed B.named
  have hlocks := B.notSynchronized
  have hsplit := vx_table (x := yL_revoke) B (atoms_spec (ws := xwh yL_revoke cL_revoke 4 (some .int) [(0, 16, 19, 13)]) B.pre _ List.mem_cons_self)
  subst hsz
  have hAb := x_Ab hD0 hE.1
  have hD := hD0.self (sz := s.heap.size)
  generalize hAe : va_A [(h0, .inr (5, [.ref s0, .ref de, .ref kl, .ref tl, .ref cu, .ref hk, .ref ca, .int 0, .int 0, .int (-1), .int 0, .int 0])), (kl, .inr (2, [.ref kx, .ref ky, .int 0])), (tl, .inr (4, [.ref tx, .ref ty, .int 1])), (s0, .inr (3, [.ref a0, .ref a1, .ref a2, .ref a3, .ref a4, .ref a5, .ref a6, .int 0, .ref a7, .ref a8, .ref a9, .ref a10, .ref a11, .int 0])), (ou, .inl (C 2, 1, .inr (.inl fo)))] s.heap.size = A at hD hAb ⊢
  have hA : ∀ q : Nat, s.heap.size ≤ q → A q := fun q h => by rw [← hAe]; exact Or.inr h
  have hS : va_S A s.heap s.heap [] := va_S.rf
  have hP : va_P D vwCl [(h0, .inr (5, [.ref s0, .ref de, .ref kl, .ref tl, .ref cu, .ref hk, .ref ca, .int 0, .int 0, .int (-1), .int 0, .int 0])), (kl, .inr (2, [.ref kx, .ref ky, .int 0])), (tl, .inr (4, [.ref tx, .ref ty, .int 1])), (s0, .inr (3, [.ref a0, .ref a1, .ref a2, .ref a3, .ref a4, .ref a5, .ref a6, .int 0, .ref a7, .ref a8, .ref a9, .ref a10, .ref a11, .int 0])), (ou, .inl (C 2, 1, .inr (.inl fo)))] s.heap := hP
  have hl := lv_entry ([.ref h0, .int p0, .ref ou]) (n := 4) (Nat.le_of_ble_eq_true rfl)
  rw [lg_entry_eq]
  generalize (lg_sl ([.ref h0, .int p0, .ref ou]) ++ List.replicate (4 - (lg_sl ([.ref h0, .int p0, .ref ou])).length) Slot.unset).toArray = ls at hl ⊢
  have hl : lv_has ls 4 [(0, .ref h0), (1, .int p0), (2, .ref ou)] := hl
  refine lv_aload_n hx hb dL_revoke_0 rfl (lv_at hl 2 rfl) ?_
  refine lv_iconst (v := 0) hx hb dL_revoke_1 (by decide) ?_
  refine lv_aload_n hx hb dL_revoke_2 rfl (lv_at hl 0 rfl) ?_
  refine lv_iload_n hx hb dL_revoke_3 rfl (lv_at hl 1 rfl) ?_
  have hPc := hP.sub (ws' := [(h0, .inr (5, [.ref s0, .ref de, .ref kl, .ref tl, .ref cu, .ref hk, .ref ca, .int 0, .int 0, .int (-1), .int 0, .int 0])), (kl, .inr (2, [.ref kx, .ref ky, .int 0])), (tl, .inr (4, [.ref tx, .ref ty, .int 1])), (s0, .inr (3, [.ref a0, .ref a1, .ref a2, .ref a3, .ref a4, .ref a5, .ref a6, .int 0, .ref a7, .ref a8, .ref a9, .ref a10, .ref a11, .int 0]))]) [0, 1, 2, 3] rfl
  have hDc := hD.sub (ws' := [(h0, .inr (5, [.ref s0, .ref de, .ref kl, .ref tl, .ref cu, .ref hk, .ref ca, .int 0, .int 0, .int (-1), .int 0, .int 0])), (kl, .inr (2, [.ref kx, .ref ky, .int 0])), (tl, .inr (4, [.ref tx, .ref ty, .int 1])), (s0, .inr (3, [.ref a0, .ref a1, .ref a2, .ref a3, .ref a4, .ref a5, .ref a6, .int 0, .ref a7, .ref a8, .ref a9, .ref a10, .ref a11, .int 0]))]) [0, 1, 2, 3] (by decide) rfl
  have hFc := va_free (wc := [(h0, .inr (5, [.ref s0, .ref de, .ref kl, .ref tl, .ref cu, .ref hk, .ref ca, .int 0, .int 0, .int (-1), .int 0, .int 0])), (kl, .inr (2, [.ref kx, .ref ky, .int 0])), (tl, .inr (4, [.ref tx, .ref ty, .int 1])), (s0, .inr (3, [.ref a0, .ref a1, .ref a2, .ref a3, .ref a4, .ref a5, .ref a6, .int 0, .ref a7, .ref a8, .ref a9, .ref a10, .ref a11, .int 0]))]) hD hS hA [0, 1, 2, 3] rfl
  refine vx_calli (vx_runV (As := [.int p0]) (rest := [.int 0, .ref ou]) ⟨hx, hb, hml, hown, ht⟩ (k5_revoke l hl0 D C b0 s.heap.size h0 s0 de kl tl cu hk ca kx ky tx ty a0 a1 a2 a3 a4 a5 a6 a7 a8 a9 a10 a11 p0) (cwV 1 ht (xg_V m_502 m_503 m_504 m_281 m_196) rfl rfl rfl (by decide +kernel) ⟨Nat.le_of_ble_eq_true rfl, Nat.le_of_ble_eq_true rfl⟩) ⟨xPc_bl, va_recv hK hPc (ci := 5) (q0 := 0) rfl rfl, xPc_at hPc hK hDc hE hS hAb⟩ rfl rfl hl.1 rfl (lv_room (Nat.le_of_ble_eq_true rfl)) dL_revoke_4 ⟨(by decide), (by decide)⟩) hS (fun q _ h => hFc q h) hFc (fun q _ h => hFc q h) (fun E ce q9 u9 t9 H9 locs9 e9 v9 p9 b9 z9 k9 hS9 hc9 hn9 hf9 => ?_) (fun r_1 u_2 t H1 locs ht1 hvm hw hB hz1 hk1 hS => ?_)
  · skip
    obtain rfl := b9
    obtain ⟨hP, hD⟩ := va_join (wr := [(ou, .inl (C 2, 1, .inr (.inl fo)))]) (w1 := []) hP hD [0, 1, 2, 3] [4] rfl rfl (by decide) (by decide) k9 hFc (fun k q h => by simp at h) ⟨fun i j p q h => by simp at h, fun k q h => by simp at h⟩
    have hP : va_P D vwCl [(ou, .inl (C 2, 1, .inr (.inl fo)))] H9 := hP
    have hD : va_D A [(ou, .inl (C 2, 1, .inr (.inl fo)))] := hD
    have hS := hS9
    refine x_catch hown ⟨0, 16, 19, 13⟩ [] (hsplit.trans rfl) (by decide) (by decide) (ht _ m_492) (hE.use (by decide +kernel)) hc9 hn9 hf9 ?_
    refine W.widen (k := 3) (n := 18) (by decide) (by decide) ?_
    refine lv_astore_n (lv' := [(3, .ref q9), (0, .ref h0), (1, .int p0), (2, .ref ou)]) hx hb dL_revoke_19 rfl hl (by decide) rfl (fun ls hl => ?_)
    refine lv_iconst (v := 1) hx hb dL_revoke_20 (by decide) ?_
    have hP9 := hP.sub (ws' := [(ou, .inl (C 2, 1, .inr (.inl fo)))]) [0] rfl
    have hD9 := hD.sub (ws' := [(ou, .inl (C 2, 1, .inr (.inl fo)))]) [0] (by decide) rfl
    refine W.widen (k := 3) (n := 18) (by decide) (by decide) ?_
    exact W.iret (v := 1) hx hb hr (fun t ht1 hW => ⟨⟨1, fo, rfl, by first | trivial | rfl | assumption | decide | (simp_all; done), by rw [ht1]; exact hP9, hD9⟩, hS.F ht1⟩) hS.2.2 dL_revoke_21
  · exact hw.elim
set_option maxHeartbeats 4000000 in
set_option maxRecDepth 100000 in
theorem kL_get (l : Launch) (hl0 : l.stackTraces = false) (D : va_G) (C : Nat → ClassId) (b0 sz : Nat) (h0 : Nat) (s0 : Nat) (de : Nat) (kl : Nat) (tl : Nat) (cu : Nat) (hk : Nat) (ca : Nat) (kx : Nat) (ky : Nat) (tx : Nat) (ty : Nat) (a0 : Nat) (a1 : Nat) (a2 : Nat) (a3 : Nat) (a4 : Nat) (a5 : Nat) (a6 : Nat) (a7 : Nat) (a8 : Nat) (a9 : Nat) (a10 : Nat) (a11 : Nat) (p0 : Int32) (p1 : Int32) (p2 : Int32) (p3 : Int32) (ou : Nat) (fo : Nat → Int64) : Met l yL_get (xwh yL_get cL_get 7 (some .int) [(0, 14, 17, 13), (0, 14, 21, 36), (0, 14, 25, 38), (0, 14, 29, 40), (0, 14, 33, 15)]) ({ frames := 64, cells := 3, slots := 18, locals := 1200 }) (xPc D C b0 [.ref h0, .int p0, .int p1, .int p2, .int p3, .ref ou] [(h0, .inr (5, [.ref s0, .ref de, .ref kl, .ref tl, .ref cu, .ref hk, .ref ca, .int 0, .int 0, .int (-1), .int 0, .int 0])), (kl, .inr (2, [.ref kx, .ref ky, .int 0])), (tl, .inr (4, [.ref tx, .ref ty, .int 1])), (s0, .inr (3, [.ref a0, .ref a1, .ref a2, .ref a3, .ref a4, .ref a5, .ref a6, .int 0, .ref a7, .ref a8, .ref a9, .ref a10, .ref a11, .int 0])), (ou, .inl (C 2, 1, .inr (.inl fo)))] sz) (va_Qi (fun (r : Int32) (u : Nat → Int64) => r = 1) (xBw D (va_A [(h0, .inr (5, [.ref s0, .ref de, .ref kl, .ref tl, .ref cu, .ref hk, .ref ca, .int 0, .int 0, .int (-1), .int 0, .int 0])), (kl, .inr (2, [.ref kx, .ref ky, .int 0])), (tl, .inr (4, [.ref tx, .ref ty, .int 1])), (s0, .inr (3, [.ref a0, .ref a1, .ref a2, .ref a3, .ref a4, .ref a5, .ref a6, .int 0, .ref a7, .ref a8, .ref a9, .ref a10, .ref a11, .int 0])), (ou, .inl (C 2, 1, .inr (.inl fo)))] sz) (fun u => [(ou, .inl (C 2, 1, .inr (.inl (u))))])) (va_A [(h0, .inr (5, [.ref s0, .ref de, .ref kl, .ref tl, .ref cu, .ref hk, .ref ca, .int 0, .int 0, .int (-1), .int 0, .int 0])), (kl, .inr (2, [.ref kx, .ref ky, .int 0])), (tl, .inr (4, [.ref tx, .ref ty, .int 1])), (s0, .inr (3, [.ref a0, .ref a1, .ref a2, .ref a3, .ref a4, .ref a5, .ref a6, .int 0, .ref a7, .ref a8, .ref a9, .ref a10, .ref a11, .int 0])), (ou, .inl (C 2, 1, .inr (.inl fo)))] sz)) 3 18 (va_A [(h0, .inr (5, [.ref s0, .ref de, .ref kl, .ref tl, .ref cu, .ref hk, .ref ca, .int 0, .int 0, .int (-1), .int 0, .int 0])), (kl, .inr (2, [.ref kx, .ref ky, .int 0])), (tl, .inr (4, [.ref tx, .ref ty, .int 1])), (s0, .inr (3, [.ref a0, .ref a1, .ref a2, .ref a3, .ref a4, .ref a5, .ref a6, .int 0, .ref a7, .ref a8, .ref a9, .ref a10, .ref a11, .int 0])), (ou, .inl (C 2, 1, .inr (.inl fo)))] sz) := by
  refine va_MetW (cc := cL_get) (maxL := 7) (ret := (some .int)) (by decide) rfl ?_
  intro p e s m args below meth c s₁ B hml hv
  obtain ⟨rfl, hsz, hP, hK, hD0, hE⟩ := hv
  have hx := B.exec
  have hb := B.bytes
  have hr := B.returns
  have ht : ∀ w ∈ xb, w.before _ s = true := fun w h => atoms_spec (ws := xwh yL_get cL_get 7 (some .int) [(0, 14, 17, 13), (0, 14, 21, 36), (0, 14, 25, 38), (0, 14, 29, 40), (0, 14, 33, 15)]) B.pre w (List.mem_cons_of_mem _ h)
  have hown : s.vm.findClass RL = some m.cls := findClass_of_methodNamed B.named
  have hlocks := B.notSynchronized
  have hsplit := vx_table (x := yL_get) B (atoms_spec (ws := xwh yL_get cL_get 7 (some .int) [(0, 14, 17, 13), (0, 14, 21, 36), (0, 14, 25, 38), (0, 14, 29, 40), (0, 14, 33, 15)]) B.pre _ List.mem_cons_self)
  subst hsz
  have hAb := x_Ab hD0 hE.1
  have hD := hD0.self (sz := s.heap.size)
  generalize hAe : va_A [(h0, .inr (5, [.ref s0, .ref de, .ref kl, .ref tl, .ref cu, .ref hk, .ref ca, .int 0, .int 0, .int (-1), .int 0, .int 0])), (kl, .inr (2, [.ref kx, .ref ky, .int 0])), (tl, .inr (4, [.ref tx, .ref ty, .int 1])), (s0, .inr (3, [.ref a0, .ref a1, .ref a2, .ref a3, .ref a4, .ref a5, .ref a6, .int 0, .ref a7, .ref a8, .ref a9, .ref a10, .ref a11, .int 0])), (ou, .inl (C 2, 1, .inr (.inl fo)))] s.heap.size = A at hD hAb ⊢
  have hA : ∀ q : Nat, s.heap.size ≤ q → A q := fun q h => by rw [← hAe]; exact Or.inr h
  have hS : va_S A s.heap s.heap [] := va_S.rf
  have hP : va_P D vwCl [(h0, .inr (5, [.ref s0, .ref de, .ref kl, .ref tl, .ref cu, .ref hk, .ref ca, .int 0, .int 0, .int (-1), .int 0, .int 0])), (kl, .inr (2, [.ref kx, .ref ky, .int 0])), (tl, .inr (4, [.ref tx, .ref ty, .int 1])), (s0, .inr (3, [.ref a0, .ref a1, .ref a2, .ref a3, .ref a4, .ref a5, .ref a6, .int 0, .ref a7, .ref a8, .ref a9, .ref a10, .ref a11, .int 0])), (ou, .inl (C 2, 1, .inr (.inl fo)))] s.heap := hP
  have hl := lv_entry ([.ref h0, .int p0, .int p1, .int p2, .int p3, .ref ou]) (n := 7) (Nat.le_of_ble_eq_true rfl)
  rw [lg_entry_eq]
  generalize (lg_sl ([.ref h0, .int p0, .int p1, .int p2, .int p3, .ref ou]) ++ List.replicate (7 - (lg_sl ([.ref h0, .int p0, .int p1, .int p2, .int p3, .ref ou])).length) Slot.unset).toArray = ls at hl ⊢
  have hl : lv_has ls 7 [(0, .ref h0), (1, .int p0), (2, .int p1), (3, .int p2), (4, .int p3), (5, .ref ou)] := hl
  refine lv_aload hx hb dL_get_0 (lv_at hl 5 rfl) ?_
  refine lv_iconst (v := 0) hx hb dL_get_2 (by decide) ?_
  refine lv_aload_n hx hb dL_get_3 rfl (lv_at hl 0 rfl) ?_
  refine lv_iload_n hx hb dL_get_4 rfl (lv_at hl 1 rfl) ?_
  refine lv_iload_n hx hb dL_get_5 rfl (lv_at hl 2 rfl) ?_
  refine lv_iload_n hx hb dL_get_6 rfl (lv_at hl 3 rfl) ?_
  refine lv_iload hx hb dL_get_7 (lv_at hl 4 rfl) ?_
  have hPc := hP.sub (ws' := [(h0, .inr (5, [.ref s0, .ref de, .ref kl, .ref tl, .ref cu, .ref hk, .ref ca, .int 0, .int 0, .int (-1), .int 0, .int 0])), (kl, .inr (2, [.ref kx, .ref ky, .int 0])), (tl, .inr (4, [.ref tx, .ref ty, .int 1])), (s0, .inr (3, [.ref a0, .ref a1, .ref a2, .ref a3, .ref a4, .ref a5, .ref a6, .int 0, .ref a7, .ref a8, .ref a9, .ref a10, .ref a11, .int 0]))]) [0, 1, 2, 3] rfl
  have hDc := hD.sub (ws' := [(h0, .inr (5, [.ref s0, .ref de, .ref kl, .ref tl, .ref cu, .ref hk, .ref ca, .int 0, .int 0, .int (-1), .int 0, .int 0])), (kl, .inr (2, [.ref kx, .ref ky, .int 0])), (tl, .inr (4, [.ref tx, .ref ty, .int 1])), (s0, .inr (3, [.ref a0, .ref a1, .ref a2, .ref a3, .ref a4, .ref a5, .ref a6, .int 0, .ref a7, .ref a8, .ref a9, .ref a10, .ref a11, .int 0]))]) [0, 1, 2, 3] (by decide) rfl
  have hFc := va_free (wc := [(h0, .inr (5, [.ref s0, .ref de, .ref kl, .ref tl, .ref cu, .ref hk, .ref ca, .int 0, .int 0, .int (-1), .int 0, .int 0])), (kl, .inr (2, [.ref kx, .ref ky, .int 0])), (tl, .inr (4, [.ref tx, .ref ty, .int 1])), (s0, .inr (3, [.ref a0, .ref a1, .ref a2, .ref a3, .ref a4, .ref a5, .ref a6, .int 0, .ref a7, .ref a8, .ref a9, .ref a10, .ref a11, .int 0]))]) hD hS hA [0, 1, 2, 3] rfl
  refine vx_calli (vx_runV (As := [.int p0, .int p1, .int p2, .int p3]) (rest := [.int 0, .ref ou]) ⟨hx, hb, hml, hown, ht⟩ (k5_get l hl0 D C b0 s.heap.size h0 s0 de kl tl cu hk ca kx ky tx ty a0 a1 a2 a3 a4 a5 a6 a7 a8 a9 a10 a11 p0 p1 p2 p3) (cwV 4 ht (xg_V m_505 m_506 m_507 m_281 m_183) rfl rfl rfl (by decide +kernel) ⟨Nat.le_of_ble_eq_true rfl, Nat.le_of_ble_eq_true rfl⟩) ⟨xPc_bl, va_recv hK hPc (ci := 5) (q0 := 0) rfl rfl, xPc_at hPc hK hDc hE hS hAb⟩ rfl rfl hl.1 rfl (lv_room (Nat.le_of_ble_eq_true rfl)) dL_get_9 ⟨(by decide), (by decide)⟩) hS (fun q _ h => hFc q h) hFc (fun q _ h => hFc q h) (fun E ce q9 u9 t9 H9 locs9 e9 v9 p9 b9 z9 k9 hS9 hc9 hn9 hf9 => ?_) (fun r_1 u_2 t H1 locs ht1 hvm hw hB hz1 hk1 hS => ?_)
  · skip
    obtain rfl := b9
    obtain ⟨hP, hD⟩ := va_join (wr := [(ou, .inl (C 2, 1, .inr (.inl fo)))]) (w1 := []) hP hD [0, 1, 2, 3] [4] rfl rfl (by decide) (by decide) k9 hFc (fun k q h => by simp at h) ⟨fun i j p q h => by simp at h, fun k q h => by simp at h⟩
    have hP : va_P D vwCl [(ou, .inl (C 2, 1, .inr (.inl fo)))] H9 := hP
    have hD : va_D A [(ou, .inl (C 2, 1, .inr (.inl fo)))] := hD
    have hS := hS9
    refine x_catch hown ⟨0, 14, 17, 13⟩ [⟨0, 14, 21, 36⟩, ⟨0, 14, 25, 38⟩, ⟨0, 14, 29, 40⟩, ⟨0, 14, 33, 15⟩] (hsplit.trans rfl) (by decide) (by decide) (ht _ m_492) (hE.use (by decide +kernel)) hc9 hn9 hf9 ?_
    refine W.widen (k := 3) (n := 18) (by decide) (by decide) ?_
    refine lv_astore (lv' := [(6, .ref q9), (0, .ref h0), (1, .int p0), (2, .int p1), (3, .int p2), (4, .int p3), (5, .ref ou)]) hx hb dL_get_17 hl (by decide) rfl (fun ls hl => ?_)
    refine lv_iconst (v := 1) hx hb dL_get_19 (by decide) ?_
    have hP9 := hP.sub (ws' := [(ou, .inl (C 2, 1, .inr (.inl fo)))]) [0] rfl
    have hD9 := hD.sub (ws' := [(ou, .inl (C 2, 1, .inr (.inl fo)))]) [0] (by decide) rfl
    refine W.widen (k := 3) (n := 18) (by decide) (by decide) ?_
    exact W.iret (v := 1) hx hb hr (fun t ht1 hW => ⟨⟨1, fo, rfl, by first | trivial | rfl | assumption | decide | (simp_all; done), by rw [ht1]; exact hP9, hD9⟩, hS.F ht1⟩) hS.2.2 dL_get_20
  · exact hw.elim
set_option maxHeartbeats 4000000 in
set_option maxRecDepth 100000 in
theorem kL_set (l : Launch) (hl0 : l.stackTraces = false) (D : va_G) (C : Nat → ClassId) (b0 sz : Nat) (h0 : Nat) (s0 : Nat) (de : Nat) (kl : Nat) (tl : Nat) (cu : Nat) (hk : Nat) (ca : Nat) (kx : Nat) (ky : Nat) (tx : Nat) (ty : Nat) (a0 : Nat) (a1 : Nat) (a2 : Nat) (a3 : Nat) (a4 : Nat) (a5 : Nat) (a6 : Nat) (a7 : Nat) (a8 : Nat) (a9 : Nat) (a10 : Nat) (a11 : Nat) (p0 : Int32) (p1 : Int32) (p2 : Int32) (p3 : Int32) (p4 : Int32) (ou : Nat) (fo : Nat → Int64) : Met l yL_set (xwh yL_set cL_set 8 (some .int) [(0, 23, 26, 13), (0, 23, 30, 36), (0, 23, 34, 38), (0, 23, 38, 40), (0, 23, 42, 15)]) ({ frames := 64, cells := 3, slots := 18, locals := 1200 }) (xPc D C b0 [.ref h0, .int p0, .int p1, .int p2, .int p3, .int p4, .ref ou] [(h0, .inr (5, [.ref s0, .ref de, .ref kl, .ref tl, .ref cu, .ref hk, .ref ca, .int 0, .int 0, .int (-1), .int 0, .int 0])), (kl, .inr (2, [.ref kx, .ref ky, .int 0])), (tl, .inr (4, [.ref tx, .ref ty, .int 1])), (s0, .inr (3, [.ref a0, .ref a1, .ref a2, .ref a3, .ref a4, .ref a5, .ref a6, .int 0, .ref a7, .ref a8, .ref a9, .ref a10, .ref a11, .int 0])), (ou, .inl (C 2, 1, .inr (.inl fo)))] sz) (va_Qi (fun (r : Int32) (u : Nat → Int64) => r = 1) (xBw D (va_A [(h0, .inr (5, [.ref s0, .ref de, .ref kl, .ref tl, .ref cu, .ref hk, .ref ca, .int 0, .int 0, .int (-1), .int 0, .int 0])), (kl, .inr (2, [.ref kx, .ref ky, .int 0])), (tl, .inr (4, [.ref tx, .ref ty, .int 1])), (s0, .inr (3, [.ref a0, .ref a1, .ref a2, .ref a3, .ref a4, .ref a5, .ref a6, .int 0, .ref a7, .ref a8, .ref a9, .ref a10, .ref a11, .int 0])), (ou, .inl (C 2, 1, .inr (.inl fo)))] sz) (fun u => [(ou, .inl (C 2, 1, .inr (.inl (u))))])) (va_A [(h0, .inr (5, [.ref s0, .ref de, .ref kl, .ref tl, .ref cu, .ref hk, .ref ca, .int 0, .int 0, .int (-1), .int 0, .int 0])), (kl, .inr (2, [.ref kx, .ref ky, .int 0])), (tl, .inr (4, [.ref tx, .ref ty, .int 1])), (s0, .inr (3, [.ref a0, .ref a1, .ref a2, .ref a3, .ref a4, .ref a5, .ref a6, .int 0, .ref a7, .ref a8, .ref a9, .ref a10, .ref a11, .int 0])), (ou, .inl (C 2, 1, .inr (.inl fo)))] sz)) 3 18 (va_A [(h0, .inr (5, [.ref s0, .ref de, .ref kl, .ref tl, .ref cu, .ref hk, .ref ca, .int 0, .int 0, .int (-1), .int 0, .int 0])), (kl, .inr (2, [.ref kx, .ref ky, .int 0])), (tl, .inr (4, [.ref tx, .ref ty, .int 1])), (s0, .inr (3, [.ref a0, .ref a1, .ref a2, .ref a3, .ref a4, .ref a5, .ref a6, .int 0, .ref a7, .ref a8, .ref a9, .ref a10, .ref a11, .int 0])), (ou, .inl (C 2, 1, .inr (.inl fo)))] sz) := by
  refine va_MetW (cc := cL_set) (maxL := 8) (ret := (some .int)) (by decide) rfl ?_
  intro p e s m args below meth c s₁ B hml hv
  obtain ⟨rfl, hsz, hP, hK, hD0, hE⟩ := hv
  have hx := B.exec
  have hb := B.bytes
  have hr := B.returns
  have ht : ∀ w ∈ xb, w.before _ s = true := fun w h => atoms_spec (ws := xwh yL_set cL_set 8 (some .int) [(0, 23, 26, 13), (0, 23, 30, 36), (0, 23, 34, 38), (0, 23, 38, 40), (0, 23, 42, 15)]) B.pre w (List.mem_cons_of_mem _ h)
  have hown : s.vm.findClass RL = some m.cls := findClass_of_methodNamed B.named
  have hlocks := B.notSynchronized
  have hsplit := vx_table (x := yL_set) B (atoms_spec (ws := xwh yL_set cL_set 8 (some .int) [(0, 23, 26, 13), (0, 23, 30, 36), (0, 23, 34, 38), (0, 23, 38, 40), (0, 23, 42, 15)]) B.pre _ List.mem_cons_self)
  subst hsz
  have hAb := x_Ab hD0 hE.1
  have hD := hD0.self (sz := s.heap.size)
  generalize hAe : va_A [(h0, .inr (5, [.ref s0, .ref de, .ref kl, .ref tl, .ref cu, .ref hk, .ref ca, .int 0, .int 0, .int (-1), .int 0, .int 0])), (kl, .inr (2, [.ref kx, .ref ky, .int 0])), (tl, .inr (4, [.ref tx, .ref ty, .int 1])), (s0, .inr (3, [.ref a0, .ref a1, .ref a2, .ref a3, .ref a4, .ref a5, .ref a6, .int 0, .ref a7, .ref a8, .ref a9, .ref a10, .ref a11, .int 0])), (ou, .inl (C 2, 1, .inr (.inl fo)))] s.heap.size = A at hD hAb ⊢
  have hA : ∀ q : Nat, s.heap.size ≤ q → A q := fun q h => by rw [← hAe]; exact Or.inr h
  have hS : va_S A s.heap s.heap [] := va_S.rf
  have hP : va_P D vwCl [(h0, .inr (5, [.ref s0, .ref de, .ref kl, .ref tl, .ref cu, .ref hk, .ref ca, .int 0, .int 0, .int (-1), .int 0, .int 0])), (kl, .inr (2, [.ref kx, .ref ky, .int 0])), (tl, .inr (4, [.ref tx, .ref ty, .int 1])), (s0, .inr (3, [.ref a0, .ref a1, .ref a2, .ref a3, .ref a4, .ref a5, .ref a6, .int 0, .ref a7, .ref a8, .ref a9, .ref a10, .ref a11, .int 0])), (ou, .inl (C 2, 1, .inr (.inl fo)))] s.heap := hP
  have hl := lv_entry ([.ref h0, .int p0, .int p1, .int p2, .int p3, .int p4, .ref ou]) (n := 8) (Nat.le_of_ble_eq_true rfl)
  rw [lg_entry_eq]
  generalize (lg_sl ([.ref h0, .int p0, .int p1, .int p2, .int p3, .int p4, .ref ou]) ++ List.replicate (8 - (lg_sl ([.ref h0, .int p0, .int p1, .int p2, .int p3, .int p4, .ref ou])).length) Slot.unset).toArray = ls at hl ⊢
  have hl : lv_has ls 8 [(0, .ref h0), (1, .int p0), (2, .int p1), (3, .int p2), (4, .int p3), (5, .int p4), (6, .ref ou)] := hl
  refine lv_aload hx hb dL_set_0 (lv_at hl 6 rfl) ?_
  refine lv_iconst (v := 0) hx hb dL_set_2 (by decide) ?_
  refine lv_aload_n hx hb dL_set_3 rfl (lv_at hl 0 rfl) ?_
  refine lv_iload_n hx hb dL_set_4 rfl (lv_at hl 1 rfl) ?_
  refine lv_iload_n hx hb dL_set_5 rfl (lv_at hl 2 rfl) ?_
  refine lv_iload_n hx hb dL_set_6 rfl (lv_at hl 3 rfl) ?_
  refine lv_iload hx hb dL_set_7 (lv_at hl 4 rfl) ?_
  refine lv_iload hx hb dL_set_9 (lv_at hl 5 rfl) ?_
  have hPc := hP.sub (ws' := [(h0, .inr (5, [.ref s0, .ref de, .ref kl, .ref tl, .ref cu, .ref hk, .ref ca, .int 0, .int 0, .int (-1), .int 0, .int 0])), (kl, .inr (2, [.ref kx, .ref ky, .int 0])), (tl, .inr (4, [.ref tx, .ref ty, .int 1])), (s0, .inr (3, [.ref a0, .ref a1, .ref a2, .ref a3, .ref a4, .ref a5, .ref a6, .int 0, .ref a7, .ref a8, .ref a9, .ref a10, .ref a11, .int 0]))]) [0, 1, 2, 3] rfl
  have hDc := hD.sub (ws' := [(h0, .inr (5, [.ref s0, .ref de, .ref kl, .ref tl, .ref cu, .ref hk, .ref ca, .int 0, .int 0, .int (-1), .int 0, .int 0])), (kl, .inr (2, [.ref kx, .ref ky, .int 0])), (tl, .inr (4, [.ref tx, .ref ty, .int 1])), (s0, .inr (3, [.ref a0, .ref a1, .ref a2, .ref a3, .ref a4, .ref a5, .ref a6, .int 0, .ref a7, .ref a8, .ref a9, .ref a10, .ref a11, .int 0]))]) [0, 1, 2, 3] (by decide) rfl
  have hFc := va_free (wc := [(h0, .inr (5, [.ref s0, .ref de, .ref kl, .ref tl, .ref cu, .ref hk, .ref ca, .int 0, .int 0, .int (-1), .int 0, .int 0])), (kl, .inr (2, [.ref kx, .ref ky, .int 0])), (tl, .inr (4, [.ref tx, .ref ty, .int 1])), (s0, .inr (3, [.ref a0, .ref a1, .ref a2, .ref a3, .ref a4, .ref a5, .ref a6, .int 0, .ref a7, .ref a8, .ref a9, .ref a10, .ref a11, .int 0]))]) hD hS hA [0, 1, 2, 3] rfl
  refine vx_calli (vx_runV (As := [.int p0, .int p1, .int p2, .int p3, .int p4]) (rest := [.int 0, .ref ou]) ⟨hx, hb, hml, hown, ht⟩ (k5_set l hl0 D C b0 s.heap.size h0 s0 de kl tl cu hk ca kx ky tx ty a0 a1 a2 a3 a4 a5 a6 a7 a8 a9 a10 a11 p0 p1 p2 p3 p4) (cwV 5 ht (xg_V m_508 m_509 m_510 m_281 m_184) rfl rfl rfl (by decide +kernel) ⟨Nat.le_of_ble_eq_true rfl, Nat.le_of_ble_eq_true rfl⟩) ⟨xPc_bl, va_recv hK hPc (ci := 5) (q0 := 0) rfl rfl, xPc_at hPc hK hDc hE hS hAb⟩ rfl rfl hl.1 rfl (lv_room (Nat.le_of_ble_eq_true rfl)) dL_set_11 ⟨(by decide), (by decide)⟩) hS (fun q _ h => hFc q h) hFc (fun q _ h => hFc q h) (fun E ce q9 u9 t9 H9 locs9 e9 v9 p9 b9 z9 k9 hS9 hc9 hn9 hf9 => ?_) (fun r_1 u_2 t H1 locs ht1 hvm hw hB hz1 hk1 hS => ?_)
  · skip
    obtain rfl := b9
    obtain ⟨hP, hD⟩ := va_join (wr := [(ou, .inl (C 2, 1, .inr (.inl fo)))]) (w1 := []) hP hD [0, 1, 2, 3] [4] rfl rfl (by decide) (by decide) k9 hFc (fun k q h => by simp at h) ⟨fun i j p q h => by simp at h, fun k q h => by simp at h⟩
    have hP : va_P D vwCl [(ou, .inl (C 2, 1, .inr (.inl fo)))] H9 := hP
    have hD : va_D A [(ou, .inl (C 2, 1, .inr (.inl fo)))] := hD
    have hS := hS9
    refine x_catch hown ⟨0, 23, 26, 13⟩ [⟨0, 23, 30, 36⟩, ⟨0, 23, 34, 38⟩, ⟨0, 23, 38, 40⟩, ⟨0, 23, 42, 15⟩] (hsplit.trans rfl) (by decide) (by decide) (ht _ m_492) (hE.use (by decide +kernel)) hc9 hn9 hf9 ?_
    refine W.widen (k := 3) (n := 18) (by decide) (by decide) ?_
    refine lv_astore (lv' := [(7, .ref q9), (0, .ref h0), (1, .int p0), (2, .int p1), (3, .int p2), (4, .int p3), (5, .int p4), (6, .ref ou)]) hx hb dL_set_26 hl (by decide) rfl (fun ls hl => ?_)
    refine lv_iconst (v := 1) hx hb dL_set_28 (by decide) ?_
    have hP9 := hP.sub (ws' := [(ou, .inl (C 2, 1, .inr (.inl fo)))]) [0] rfl
    have hD9 := hD.sub (ws' := [(ou, .inl (C 2, 1, .inr (.inl fo)))]) [0] (by decide) rfl
    refine W.widen (k := 3) (n := 18) (by decide) (by decide) ?_
    exact W.iret (v := 1) hx hb hr (fun t ht1 hW => ⟨⟨1, fo, rfl, by first | trivial | rfl | assumption | decide | (simp_all; done), by rw [ht1]; exact hP9, hD9⟩, hS.F ht1⟩) hS.2.2 dL_set_29
  · exact hw.elim
set_option maxHeartbeats 4000000 in
set_option maxRecDepth 100000 in
theorem kL_has (l : Launch) (hl0 : l.stackTraces = false) (D : va_G) (C : Nat → ClassId) (b0 sz : Nat) (h0 : Nat) (s0 : Nat) (de : Nat) (kl : Nat) (tl : Nat) (cu : Nat) (hk : Nat) (ca : Nat) (kx : Nat) (ky : Nat) (tx : Nat) (ty : Nat) (a0 : Nat) (a1 : Nat) (a2 : Nat) (a3 : Nat) (a4 : Nat) (a5 : Nat) (a6 : Nat) (a7 : Nat) (a8 : Nat) (a9 : Nat) (a10 : Nat) (a11 : Nat) (p0 : Int32) (p1 : Int32) (p2 : Int32) (ou : Nat) (fo : Nat → Int64) : Met l yL_has (xwh yL_has cL_has 6 (some .int) [(0, 19, 22, 13), (0, 19, 26, 36), (0, 19, 30, 38), (0, 19, 34, 40), (0, 19, 38, 15)]) ({ frames := 64, cells := 3, slots := 18, locals := 1200 }) (xPc D C b0 [.ref h0, .int p0, .int p1, .int p2, .ref ou] [(h0, .inr (5, [.ref s0, .ref de, .ref kl, .ref tl, .ref cu, .ref hk, .ref ca, .int 0, .int 0, .int (-1), .int 0, .int 0])), (kl, .inr (2, [.ref kx, .ref ky, .int 0])), (tl, .inr (4, [.ref tx, .ref ty, .int 1])), (s0, .inr (3, [.ref a0, .ref a1, .ref a2, .ref a3, .ref a4, .ref a5, .ref a6, .int 0, .ref a7, .ref a8, .ref a9, .ref a10, .ref a11, .int 0])), (ou, .inl (C 2, 1, .inr (.inl fo)))] sz) (va_Qi (fun (r : Int32) (u : Nat → Int64) => r = 1) (xBw D (va_A [(h0, .inr (5, [.ref s0, .ref de, .ref kl, .ref tl, .ref cu, .ref hk, .ref ca, .int 0, .int 0, .int (-1), .int 0, .int 0])), (kl, .inr (2, [.ref kx, .ref ky, .int 0])), (tl, .inr (4, [.ref tx, .ref ty, .int 1])), (s0, .inr (3, [.ref a0, .ref a1, .ref a2, .ref a3, .ref a4, .ref a5, .ref a6, .int 0, .ref a7, .ref a8, .ref a9, .ref a10, .ref a11, .int 0])), (ou, .inl (C 2, 1, .inr (.inl fo)))] sz) (fun u => [(ou, .inl (C 2, 1, .inr (.inl (u))))])) (va_A [(h0, .inr (5, [.ref s0, .ref de, .ref kl, .ref tl, .ref cu, .ref hk, .ref ca, .int 0, .int 0, .int (-1), .int 0, .int 0])), (kl, .inr (2, [.ref kx, .ref ky, .int 0])), (tl, .inr (4, [.ref tx, .ref ty, .int 1])), (s0, .inr (3, [.ref a0, .ref a1, .ref a2, .ref a3, .ref a4, .ref a5, .ref a6, .int 0, .ref a7, .ref a8, .ref a9, .ref a10, .ref a11, .int 0])), (ou, .inl (C 2, 1, .inr (.inl fo)))] sz)) 3 18 (va_A [(h0, .inr (5, [.ref s0, .ref de, .ref kl, .ref tl, .ref cu, .ref hk, .ref ca, .int 0, .int 0, .int (-1), .int 0, .int 0])), (kl, .inr (2, [.ref kx, .ref ky, .int 0])), (tl, .inr (4, [.ref tx, .ref ty, .int 1])), (s0, .inr (3, [.ref a0, .ref a1, .ref a2, .ref a3, .ref a4, .ref a5, .ref a6, .int 0, .ref a7, .ref a8, .ref a9, .ref a10, .ref a11, .int 0])), (ou, .inl (C 2, 1, .inr (.inl fo)))] sz) := by
  refine va_MetW (cc := cL_has) (maxL := 6) (ret := (some .int)) (by decide) rfl ?_
  intro p e s m args below meth c s₁ B hml hv
  obtain ⟨rfl, hsz, hP, hK, hD0, hE⟩ := hv
  have hx := B.exec
  have hb := B.bytes
  have hr := B.returns
  have ht : ∀ w ∈ xb, w.before _ s = true := fun w h => atoms_spec (ws := xwh yL_has cL_has 6 (some .int) [(0, 19, 22, 13), (0, 19, 26, 36), (0, 19, 30, 38), (0, 19, 34, 40), (0, 19, 38, 15)]) B.pre w (List.mem_cons_of_mem _ h)
  have hown : s.vm.findClass RL = some m.cls := findClass_of_methodNamed B.named
  have hlocks := B.notSynchronized
  have hsplit := vx_table (x := yL_has) B (atoms_spec (ws := xwh yL_has cL_has 6 (some .int) [(0, 19, 22, 13), (0, 19, 26, 36), (0, 19, 30, 38), (0, 19, 34, 40), (0, 19, 38, 15)]) B.pre _ List.mem_cons_self)
  subst hsz
  have hAb := x_Ab hD0 hE.1
  have hD := hD0.self (sz := s.heap.size)
  generalize hAe : va_A [(h0, .inr (5, [.ref s0, .ref de, .ref kl, .ref tl, .ref cu, .ref hk, .ref ca, .int 0, .int 0, .int (-1), .int 0, .int 0])), (kl, .inr (2, [.ref kx, .ref ky, .int 0])), (tl, .inr (4, [.ref tx, .ref ty, .int 1])), (s0, .inr (3, [.ref a0, .ref a1, .ref a2, .ref a3, .ref a4, .ref a5, .ref a6, .int 0, .ref a7, .ref a8, .ref a9, .ref a10, .ref a11, .int 0])), (ou, .inl (C 2, 1, .inr (.inl fo)))] s.heap.size = A at hD hAb ⊢
  have hA : ∀ q : Nat, s.heap.size ≤ q → A q := fun q h => by rw [← hAe]; exact Or.inr h
  have hS : va_S A s.heap s.heap [] := va_S.rf
  have hP : va_P D vwCl [(h0, .inr (5, [.ref s0, .ref de, .ref kl, .ref tl, .ref cu, .ref hk, .ref ca, .int 0, .int 0, .int (-1), .int 0, .int 0])), (kl, .inr (2, [.ref kx, .ref ky, .int 0])), (tl, .inr (4, [.ref tx, .ref ty, .int 1])), (s0, .inr (3, [.ref a0, .ref a1, .ref a2, .ref a3, .ref a4, .ref a5, .ref a6, .int 0, .ref a7, .ref a8, .ref a9, .ref a10, .ref a11, .int 0])), (ou, .inl (C 2, 1, .inr (.inl fo)))] s.heap := hP
  have hl := lv_entry ([.ref h0, .int p0, .int p1, .int p2, .ref ou]) (n := 6) (Nat.le_of_ble_eq_true rfl)
  rw [lg_entry_eq]
  generalize (lg_sl ([.ref h0, .int p0, .int p1, .int p2, .ref ou]) ++ List.replicate (6 - (lg_sl ([.ref h0, .int p0, .int p1, .int p2, .ref ou])).length) Slot.unset).toArray = ls at hl ⊢
  have hl : lv_has ls 6 [(0, .ref h0), (1, .int p0), (2, .int p1), (3, .int p2), (4, .ref ou)] := hl
  refine lv_aload hx hb dL_has_0 (lv_at hl 4 rfl) ?_
  refine lv_iconst (v := 0) hx hb dL_has_2 (by decide) ?_
  refine lv_aload_n hx hb dL_has_3 rfl (lv_at hl 0 rfl) ?_
  refine lv_iload_n hx hb dL_has_4 rfl (lv_at hl 1 rfl) ?_
  refine lv_iload_n hx hb dL_has_5 rfl (lv_at hl 2 rfl) ?_
  refine lv_iload_n hx hb dL_has_6 rfl (lv_at hl 3 rfl) ?_
  have hPc := hP.sub (ws' := [(h0, .inr (5, [.ref s0, .ref de, .ref kl, .ref tl, .ref cu, .ref hk, .ref ca, .int 0, .int 0, .int (-1), .int 0, .int 0])), (kl, .inr (2, [.ref kx, .ref ky, .int 0])), (tl, .inr (4, [.ref tx, .ref ty, .int 1])), (s0, .inr (3, [.ref a0, .ref a1, .ref a2, .ref a3, .ref a4, .ref a5, .ref a6, .int 0, .ref a7, .ref a8, .ref a9, .ref a10, .ref a11, .int 0]))]) [0, 1, 2, 3] rfl
  have hDc := hD.sub (ws' := [(h0, .inr (5, [.ref s0, .ref de, .ref kl, .ref tl, .ref cu, .ref hk, .ref ca, .int 0, .int 0, .int (-1), .int 0, .int 0])), (kl, .inr (2, [.ref kx, .ref ky, .int 0])), (tl, .inr (4, [.ref tx, .ref ty, .int 1])), (s0, .inr (3, [.ref a0, .ref a1, .ref a2, .ref a3, .ref a4, .ref a5, .ref a6, .int 0, .ref a7, .ref a8, .ref a9, .ref a10, .ref a11, .int 0]))]) [0, 1, 2, 3] (by decide) rfl
  have hFc := va_free (wc := [(h0, .inr (5, [.ref s0, .ref de, .ref kl, .ref tl, .ref cu, .ref hk, .ref ca, .int 0, .int 0, .int (-1), .int 0, .int 0])), (kl, .inr (2, [.ref kx, .ref ky, .int 0])), (tl, .inr (4, [.ref tx, .ref ty, .int 1])), (s0, .inr (3, [.ref a0, .ref a1, .ref a2, .ref a3, .ref a4, .ref a5, .ref a6, .int 0, .ref a7, .ref a8, .ref a9, .ref a10, .ref a11, .int 0]))]) hD hS hA [0, 1, 2, 3] rfl
  refine vx_calli (vx_runV (As := [.int p0, .int p1, .int p2]) (rest := [.int 0, .ref ou]) ⟨hx, hb, hml, hown, ht⟩ (k5_has l hl0 D C b0 s.heap.size h0 s0 de kl tl cu hk ca kx ky tx ty a0 a1 a2 a3 a4 a5 a6 a7 a8 a9 a10 a11 p0 p1 p2) (cwV 3 ht (xg_V m_511 m_512 m_513 m_281 m_185) rfl rfl rfl (by decide +kernel) ⟨Nat.le_of_ble_eq_true rfl, Nat.le_of_ble_eq_true rfl⟩) ⟨xPc_bl, va_recv hK hPc (ci := 5) (q0 := 0) rfl rfl, xPc_at hPc hK hDc hE hS hAb⟩ rfl rfl hl.1 rfl (lv_room (Nat.le_of_ble_eq_true rfl)) dL_has_7 ⟨(by decide), (by decide)⟩) hS (fun q _ h => hFc q h) hFc (fun q _ h => hFc q h) (fun E ce q9 u9 t9 H9 locs9 e9 v9 p9 b9 z9 k9 hS9 hc9 hn9 hf9 => ?_) (fun r_1 u_2 t H1 locs ht1 hvm hw hB hz1 hk1 hS => ?_)
  · skip
    obtain rfl := b9
    obtain ⟨hP, hD⟩ := va_join (wr := [(ou, .inl (C 2, 1, .inr (.inl fo)))]) (w1 := []) hP hD [0, 1, 2, 3] [4] rfl rfl (by decide) (by decide) k9 hFc (fun k q h => by simp at h) ⟨fun i j p q h => by simp at h, fun k q h => by simp at h⟩
    have hP : va_P D vwCl [(ou, .inl (C 2, 1, .inr (.inl fo)))] H9 := hP
    have hD : va_D A [(ou, .inl (C 2, 1, .inr (.inl fo)))] := hD
    have hS := hS9
    refine x_catch hown ⟨0, 19, 22, 13⟩ [⟨0, 19, 26, 36⟩, ⟨0, 19, 30, 38⟩, ⟨0, 19, 34, 40⟩, ⟨0, 19, 38, 15⟩] (hsplit.trans rfl) (by decide) (by decide) (ht _ m_492) (hE.use (by decide +kernel)) hc9 hn9 hf9 ?_
    refine W.widen (k := 3) (n := 18) (by decide) (by decide) ?_
    refine lv_astore (lv' := [(5, .ref q9), (0, .ref h0), (1, .int p0), (2, .int p1), (3, .int p2), (4, .ref ou)]) hx hb dL_has_22 hl (by decide) rfl (fun ls hl => ?_)
    refine lv_iconst (v := 1) hx hb dL_has_24 (by decide) ?_
    have hP9 := hP.sub (ws' := [(ou, .inl (C 2, 1, .inr (.inl fo)))]) [0] rfl
    have hD9 := hD.sub (ws' := [(ou, .inl (C 2, 1, .inr (.inl fo)))]) [0] (by decide) rfl
    refine W.widen (k := 3) (n := 18) (by decide) (by decide) ?_
    exact W.iret (v := 1) hx hb hr (fun t ht1 hW => ⟨⟨1, fo, rfl, by first | trivial | rfl | assumption | decide | (simp_all; done), by rw [ht1]; exact hP9, hD9⟩, hS.F ht1⟩) hS.2.2 dL_has_25
  · exact hw.elim
set_option maxHeartbeats 4000000 in
set_option maxRecDepth 100000 in
theorem kL_remove (l : Launch) (hl0 : l.stackTraces = false) (D : va_G) (C : Nat → ClassId) (b0 sz : Nat) (h0 : Nat) (s0 : Nat) (de : Nat) (kl : Nat) (tl : Nat) (cu : Nat) (hk : Nat) (ca : Nat) (kx : Nat) (ky : Nat) (tx : Nat) (ty : Nat) (a0 : Nat) (a1 : Nat) (a2 : Nat) (a3 : Nat) (a4 : Nat) (a5 : Nat) (a6 : Nat) (a7 : Nat) (a8 : Nat) (a9 : Nat) (a10 : Nat) (a11 : Nat) (p0 : Int32) (p1 : Int32) (ou : Nat) (fo : Nat → Int64) : Met l yL_remove (xwh yL_remove cL_remove 5 (some .int) [(0, 17, 20, 13), (0, 17, 24, 36), (0, 17, 28, 38), (0, 17, 32, 40), (0, 17, 36, 15)]) ({ frames := 64, cells := 3, slots := 18, locals := 1200 }) (xPc D C b0 [.ref h0, .int p0, .int p1, .ref ou] [(h0, .inr (5, [.ref s0, .ref de, .ref kl, .ref tl, .ref cu, .ref hk, .ref ca, .int 0, .int 0, .int (-1), .int 0, .int 0])), (kl, .inr (2, [.ref kx, .ref ky, .int 0])), (tl, .inr (4, [.ref tx, .ref ty, .int 1])), (s0, .inr (3, [.ref a0, .ref a1, .ref a2, .ref a3, .ref a4, .ref a5, .ref a6, .int 0, .ref a7, .ref a8, .ref a9, .ref a10, .ref a11, .int 0])), (ou, .inl (C 2, 1, .inr (.inl fo)))] sz) (va_Qi (fun (r : Int32) (u : Nat → Int64) => r = 1) (xBw D (va_A [(h0, .inr (5, [.ref s0, .ref de, .ref kl, .ref tl, .ref cu, .ref hk, .ref ca, .int 0, .int 0, .int (-1), .int 0, .int 0])), (kl, .inr (2, [.ref kx, .ref ky, .int 0])), (tl, .inr (4, [.ref tx, .ref ty, .int 1])), (s0, .inr (3, [.ref a0, .ref a1, .ref a2, .ref a3, .ref a4, .ref a5, .ref a6, .int 0, .ref a7, .ref a8, .ref a9, .ref a10, .ref a11, .int 0])), (ou, .inl (C 2, 1, .inr (.inl fo)))] sz) (fun u => [(ou, .inl (C 2, 1, .inr (.inl (u))))])) (va_A [(h0, .inr (5, [.ref s0, .ref de, .ref kl, .ref tl, .ref cu, .ref hk, .ref ca, .int 0, .int 0, .int (-1), .int 0, .int 0])), (kl, .inr (2, [.ref kx, .ref ky, .int 0])), (tl, .inr (4, [.ref tx, .ref ty, .int 1])), (s0, .inr (3, [.ref a0, .ref a1, .ref a2, .ref a3, .ref a4, .ref a5, .ref a6, .int 0, .ref a7, .ref a8, .ref a9, .ref a10, .ref a11, .int 0])), (ou, .inl (C 2, 1, .inr (.inl fo)))] sz)) 3 18 (va_A [(h0, .inr (5, [.ref s0, .ref de, .ref kl, .ref tl, .ref cu, .ref hk, .ref ca, .int 0, .int 0, .int (-1), .int 0, .int 0])), (kl, .inr (2, [.ref kx, .ref ky, .int 0])), (tl, .inr (4, [.ref tx, .ref ty, .int 1])), (s0, .inr (3, [.ref a0, .ref a1, .ref a2, .ref a3, .ref a4, .ref a5, .ref a6, .int 0, .ref a7, .ref a8, .ref a9, .ref a10, .ref a11, .int 0])), (ou, .inl (C 2, 1, .inr (.inl fo)))] sz) := by
  refine va_MetW (cc := cL_remove) (maxL := 5) (ret := (some .int)) (by decide) rfl ?_
  intro p e s m args below meth c s₁ B hml hv
  obtain ⟨rfl, hsz, hP, hK, hD0, hE⟩ := hv
  have hx := B.exec
  have hb := B.bytes
  have hr := B.returns
  have ht : ∀ w ∈ xb, w.before _ s = true := fun w h => atoms_spec (ws := xwh yL_remove cL_remove 5 (some .int) [(0, 17, 20, 13), (0, 17, 24, 36), (0, 17, 28, 38), (0, 17, 32, 40), (0, 17, 36, 15)]) B.pre w (List.mem_cons_of_mem _ h)
  have hown : s.vm.findClass RL = some m.cls := findClass_of_methodNamed B.named
  have hlocks := B.notSynchronized
  have hsplit := vx_table (x := yL_remove) B (atoms_spec (ws := xwh yL_remove cL_remove 5 (some .int) [(0, 17, 20, 13), (0, 17, 24, 36), (0, 17, 28, 38), (0, 17, 32, 40), (0, 17, 36, 15)]) B.pre _ List.mem_cons_self)
  subst hsz
  have hAb := x_Ab hD0 hE.1
  have hD := hD0.self (sz := s.heap.size)
  generalize hAe : va_A [(h0, .inr (5, [.ref s0, .ref de, .ref kl, .ref tl, .ref cu, .ref hk, .ref ca, .int 0, .int 0, .int (-1), .int 0, .int 0])), (kl, .inr (2, [.ref kx, .ref ky, .int 0])), (tl, .inr (4, [.ref tx, .ref ty, .int 1])), (s0, .inr (3, [.ref a0, .ref a1, .ref a2, .ref a3, .ref a4, .ref a5, .ref a6, .int 0, .ref a7, .ref a8, .ref a9, .ref a10, .ref a11, .int 0])), (ou, .inl (C 2, 1, .inr (.inl fo)))] s.heap.size = A at hD hAb ⊢
  have hA : ∀ q : Nat, s.heap.size ≤ q → A q := fun q h => by rw [← hAe]; exact Or.inr h
  have hS : va_S A s.heap s.heap [] := va_S.rf
  have hP : va_P D vwCl [(h0, .inr (5, [.ref s0, .ref de, .ref kl, .ref tl, .ref cu, .ref hk, .ref ca, .int 0, .int 0, .int (-1), .int 0, .int 0])), (kl, .inr (2, [.ref kx, .ref ky, .int 0])), (tl, .inr (4, [.ref tx, .ref ty, .int 1])), (s0, .inr (3, [.ref a0, .ref a1, .ref a2, .ref a3, .ref a4, .ref a5, .ref a6, .int 0, .ref a7, .ref a8, .ref a9, .ref a10, .ref a11, .int 0])), (ou, .inl (C 2, 1, .inr (.inl fo)))] s.heap := hP
  have hl := lv_entry ([.ref h0, .int p0, .int p1, .ref ou]) (n := 5) (Nat.le_of_ble_eq_true rfl)
  rw [lg_entry_eq]
  generalize (lg_sl ([.ref h0, .int p0, .int p1, .ref ou]) ++ List.replicate (5 - (lg_sl ([.ref h0, .int p0, .int p1, .ref ou])).length) Slot.unset).toArray = ls at hl ⊢
  have hl : lv_has ls 5 [(0, .ref h0), (1, .int p0), (2, .int p1), (3, .ref ou)] := hl
  refine lv_aload_n hx hb dL_remove_0 rfl (lv_at hl 3 rfl) ?_
  refine lv_iconst (v := 0) hx hb dL_remove_1 (by decide) ?_
  refine lv_aload_n hx hb dL_remove_2 rfl (lv_at hl 0 rfl) ?_
  refine lv_iload_n hx hb dL_remove_3 rfl (lv_at hl 1 rfl) ?_
  refine lv_iload_n hx hb dL_remove_4 rfl (lv_at hl 2 rfl) ?_
  have hPc := hP.sub (ws' := [(h0, .inr (5, [.ref s0, .ref de, .ref kl, .ref tl, .ref cu, .ref hk, .ref ca, .int 0, .int 0, .int (-1), .int 0, .int 0])), (kl, .inr (2, [.ref kx, .ref ky, .int 0])), (tl, .inr (4, [.ref tx, .ref ty, .int 1])), (s0, .inr (3, [.ref a0, .ref a1, .ref a2, .ref a3, .ref a4, .ref a5, .ref a6, .int 0, .ref a7, .ref a8, .ref a9, .ref a10, .ref a11, .int 0]))]) [0, 1, 2, 3] rfl
  have hDc := hD.sub (ws' := [(h0, .inr (5, [.ref s0, .ref de, .ref kl, .ref tl, .ref cu, .ref hk, .ref ca, .int 0, .int 0, .int (-1), .int 0, .int 0])), (kl, .inr (2, [.ref kx, .ref ky, .int 0])), (tl, .inr (4, [.ref tx, .ref ty, .int 1])), (s0, .inr (3, [.ref a0, .ref a1, .ref a2, .ref a3, .ref a4, .ref a5, .ref a6, .int 0, .ref a7, .ref a8, .ref a9, .ref a10, .ref a11, .int 0]))]) [0, 1, 2, 3] (by decide) rfl
  have hFc := va_free (wc := [(h0, .inr (5, [.ref s0, .ref de, .ref kl, .ref tl, .ref cu, .ref hk, .ref ca, .int 0, .int 0, .int (-1), .int 0, .int 0])), (kl, .inr (2, [.ref kx, .ref ky, .int 0])), (tl, .inr (4, [.ref tx, .ref ty, .int 1])), (s0, .inr (3, [.ref a0, .ref a1, .ref a2, .ref a3, .ref a4, .ref a5, .ref a6, .int 0, .ref a7, .ref a8, .ref a9, .ref a10, .ref a11, .int 0]))]) hD hS hA [0, 1, 2, 3] rfl
  refine vx_calli (vx_runV (As := [.int p0, .int p1]) (rest := [.int 0, .ref ou]) ⟨hx, hb, hml, hown, ht⟩ (k5_remove l hl0 D C b0 s.heap.size h0 s0 de kl tl cu hk ca kx ky tx ty a0 a1 a2 a3 a4 a5 a6 a7 a8 a9 a10 a11 p0 p1) (cwV 2 ht (xg_V m_514 m_515 m_516 m_281 m_186) rfl rfl rfl (by decide +kernel) ⟨Nat.le_of_ble_eq_true rfl, Nat.le_of_ble_eq_true rfl⟩) ⟨xPc_bl, va_recv hK hPc (ci := 5) (q0 := 0) rfl rfl, xPc_at hPc hK hDc hE hS hAb⟩ rfl rfl hl.1 rfl (lv_room (Nat.le_of_ble_eq_true rfl)) dL_remove_5 ⟨(by decide), (by decide)⟩) hS (fun q _ h => hFc q h) hFc (fun q _ h => hFc q h) (fun E ce q9 u9 t9 H9 locs9 e9 v9 p9 b9 z9 k9 hS9 hc9 hn9 hf9 => ?_) (fun r_1 u_2 t H1 locs ht1 hvm hw hB hz1 hk1 hS => ?_)
  · skip
    obtain rfl := b9
    obtain ⟨hP, hD⟩ := va_join (wr := [(ou, .inl (C 2, 1, .inr (.inl fo)))]) (w1 := []) hP hD [0, 1, 2, 3] [4] rfl rfl (by decide) (by decide) k9 hFc (fun k q h => by simp at h) ⟨fun i j p q h => by simp at h, fun k q h => by simp at h⟩
    have hP : va_P D vwCl [(ou, .inl (C 2, 1, .inr (.inl fo)))] H9 := hP
    have hD : va_D A [(ou, .inl (C 2, 1, .inr (.inl fo)))] := hD
    have hS := hS9
    refine x_catch hown ⟨0, 17, 20, 13⟩ [⟨0, 17, 24, 36⟩, ⟨0, 17, 28, 38⟩, ⟨0, 17, 32, 40⟩, ⟨0, 17, 36, 15⟩] (hsplit.trans rfl) (by decide) (by decide) (ht _ m_492) (hE.use (by decide +kernel)) hc9 hn9 hf9 ?_
    refine W.widen (k := 3) (n := 18) (by decide) (by decide) ?_
    refine lv_astore (lv' := [(4, .ref q9), (0, .ref h0), (1, .int p0), (2, .int p1), (3, .ref ou)]) hx hb dL_remove_20 hl (by decide) rfl (fun ls hl => ?_)
    refine lv_iconst (v := 1) hx hb dL_remove_22 (by decide) ?_
    have hP9 := hP.sub (ws' := [(ou, .inl (C 2, 1, .inr (.inl fo)))]) [0] rfl
    have hD9 := hD.sub (ws' := [(ou, .inl (C 2, 1, .inr (.inl fo)))]) [0] (by decide) rfl
    refine W.widen (k := 3) (n := 18) (by decide) (by decide) ?_
    exact W.iret (v := 1) hx hb hr (fun t ht1 hW => ⟨⟨1, fo, rfl, by first | trivial | rfl | assumption | decide | (simp_all; done), by rw [ht1]; exact hP9, hD9⟩, hS.F ht1⟩) hS.2.2 dL_remove_23
  · exact hw.elim
set_option maxHeartbeats 4000000 in
set_option maxRecDepth 100000 in
theorem kL_define (l : Launch) (hl0 : l.stackTraces = false) (D : va_G) (C : Nat → ClassId) (b0 sz : Nat) (h0 : Nat) (s0 : Nat) (de : Nat) (kl : Nat) (tl : Nat) (cu : Nat) (hk : Nat) (ca : Nat) (kx : Nat) (ky : Nat) (tx : Nat) (ty : Nat) (a0 : Nat) (a1 : Nat) (a2 : Nat) (a3 : Nat) (a4 : Nat) (a5 : Nat) (a6 : Nat) (a7 : Nat) (a8 : Nat) (a9 : Nat) (a10 : Nat) (a11 : Nat) (p0 : Int32) (p1 : Int32) (p2 : Int32) (p3 : Int32) (p4 : Int32) (ou : Nat) (fo : Nat → Int64) : Met l yL_define (xwh yL_define cL_define 8 (some .int) [(0, 23, 26, 13), (0, 23, 30, 36), (0, 23, 34, 38), (0, 23, 38, 40), (0, 23, 42, 15)]) ({ frames := 64, cells := 3, slots := 18, locals := 1200 }) (xPc D C b0 [.ref h0, .int p0, .int p1, .int p2, .int p3, .int p4, .ref ou] [(h0, .inr (5, [.ref s0, .ref de, .ref kl, .ref tl, .ref cu, .ref hk, .ref ca, .int 0, .int 0, .int (-1), .int 0, .int 0])), (kl, .inr (2, [.ref kx, .ref ky, .int 0])), (tl, .inr (4, [.ref tx, .ref ty, .int 1])), (s0, .inr (3, [.ref a0, .ref a1, .ref a2, .ref a3, .ref a4, .ref a5, .ref a6, .int 0, .ref a7, .ref a8, .ref a9, .ref a10, .ref a11, .int 0])), (ou, .inl (C 2, 1, .inr (.inl fo)))] sz) (va_Qi (fun (r : Int32) (u : Nat → Int64) => r = 1) (xBw D (va_A [(h0, .inr (5, [.ref s0, .ref de, .ref kl, .ref tl, .ref cu, .ref hk, .ref ca, .int 0, .int 0, .int (-1), .int 0, .int 0])), (kl, .inr (2, [.ref kx, .ref ky, .int 0])), (tl, .inr (4, [.ref tx, .ref ty, .int 1])), (s0, .inr (3, [.ref a0, .ref a1, .ref a2, .ref a3, .ref a4, .ref a5, .ref a6, .int 0, .ref a7, .ref a8, .ref a9, .ref a10, .ref a11, .int 0])), (ou, .inl (C 2, 1, .inr (.inl fo)))] sz) (fun u => [(ou, .inl (C 2, 1, .inr (.inl (u))))])) (va_A [(h0, .inr (5, [.ref s0, .ref de, .ref kl, .ref tl, .ref cu, .ref hk, .ref ca, .int 0, .int 0, .int (-1), .int 0, .int 0])), (kl, .inr (2, [.ref kx, .ref ky, .int 0])), (tl, .inr (4, [.ref tx, .ref ty, .int 1])), (s0, .inr (3, [.ref a0, .ref a1, .ref a2, .ref a3, .ref a4, .ref a5, .ref a6, .int 0, .ref a7, .ref a8, .ref a9, .ref a10, .ref a11, .int 0])), (ou, .inl (C 2, 1, .inr (.inl fo)))] sz)) 3 18 (va_A [(h0, .inr (5, [.ref s0, .ref de, .ref kl, .ref tl, .ref cu, .ref hk, .ref ca, .int 0, .int 0, .int (-1), .int 0, .int 0])), (kl, .inr (2, [.ref kx, .ref ky, .int 0])), (tl, .inr (4, [.ref tx, .ref ty, .int 1])), (s0, .inr (3, [.ref a0, .ref a1, .ref a2, .ref a3, .ref a4, .ref a5, .ref a6, .int 0, .ref a7, .ref a8, .ref a9, .ref a10, .ref a11, .int 0])), (ou, .inl (C 2, 1, .inr (.inl fo)))] sz) := by
  refine va_MetW (cc := cL_define) (maxL := 8) (ret := (some .int)) (by decide) rfl ?_
  intro p e s m args below meth c s₁ B hml hv
  obtain ⟨rfl, hsz, hP, hK, hD0, hE⟩ := hv
  have hx := B.exec
  have hb := B.bytes
  have hr := B.returns
  have ht : ∀ w ∈ xb, w.before _ s = true := fun w h => atoms_spec (ws := xwh yL_define cL_define 8 (some .int) [(0, 23, 26, 13), (0, 23, 30, 36), (0, 23, 34, 38), (0, 23, 38, 40), (0, 23, 42, 15)]) B.pre w (List.mem_cons_of_mem _ h)
  have hown : s.vm.findClass RL = some m.cls := findClass_of_methodNamed B.named
  have hlocks := B.notSynchronized
  have hsplit := vx_table (x := yL_define) B (atoms_spec (ws := xwh yL_define cL_define 8 (some .int) [(0, 23, 26, 13), (0, 23, 30, 36), (0, 23, 34, 38), (0, 23, 38, 40), (0, 23, 42, 15)]) B.pre _ List.mem_cons_self)
  subst hsz
  have hAb := x_Ab hD0 hE.1
  have hD := hD0.self (sz := s.heap.size)
  generalize hAe : va_A [(h0, .inr (5, [.ref s0, .ref de, .ref kl, .ref tl, .ref cu, .ref hk, .ref ca, .int 0, .int 0, .int (-1), .int 0, .int 0])), (kl, .inr (2, [.ref kx, .ref ky, .int 0])), (tl, .inr (4, [.ref tx, .ref ty, .int 1])), (s0, .inr (3, [.ref a0, .ref a1, .ref a2, .ref a3, .ref a4, .ref a5, .ref a6, .int 0, .ref a7, .ref a8, .ref a9, .ref a10, .ref a11, .int 0])), (ou, .inl (C 2, 1, .inr (.inl fo)))] s.heap.size = A at hD hAb ⊢
  have hA : ∀ q : Nat, s.heap.size ≤ q → A q := fun q h => by rw [← hAe]; exact Or.inr h
  have hS : va_S A s.heap s.heap [] := va_S.rf
  have hP : va_P D vwCl [(h0, .inr (5, [.ref s0, .ref de, .ref kl, .ref tl, .ref cu, .ref hk, .ref ca, .int 0, .int 0, .int (-1), .int 0, .int 0])), (kl, .inr (2, [.ref kx, .ref ky, .int 0])), (tl, .inr (4, [.ref tx, .ref ty, .int 1])), (s0, .inr (3, [.ref a0, .ref a1, .ref a2, .ref a3, .ref a4, .ref a5, .ref a6, .int 0, .ref a7, .ref a8, .ref a9, .ref a10, .ref a11, .int 0])), (ou, .inl (C 2, 1, .inr (.inl fo)))] s.heap := hP
  have hl := lv_entry ([.ref h0, .int p0, .int p1, .int p2, .int p3, .int p4, .ref ou]) (n := 8) (Nat.le_of_ble_eq_true rfl)
  rw [lg_entry_eq]
  generalize (lg_sl ([.ref h0, .int p0, .int p1, .int p2, .int p3, .int p4, .ref ou]) ++ List.replicate (8 - (lg_sl ([.ref h0, .int p0, .int p1, .int p2, .int p3, .int p4, .ref ou])).length) Slot.unset).toArray = ls at hl ⊢
  have hl : lv_has ls 8 [(0, .ref h0), (1, .int p0), (2, .int p1), (3, .int p2), (4, .int p3), (5, .int p4), (6, .ref ou)] := hl
  refine lv_aload hx hb dL_define_0 (lv_at hl 6 rfl) ?_
  refine lv_iconst (v := 0) hx hb dL_define_2 (by decide) ?_
  refine lv_aload_n hx hb dL_define_3 rfl (lv_at hl 0 rfl) ?_
  refine lv_iload_n hx hb dL_define_4 rfl (lv_at hl 1 rfl) ?_
  refine lv_iload_n hx hb dL_define_5 rfl (lv_at hl 2 rfl) ?_
  refine lv_iload_n hx hb dL_define_6 rfl (lv_at hl 3 rfl) ?_
  refine lv_iload hx hb dL_define_7 (lv_at hl 4 rfl) ?_
  refine lv_iload hx hb dL_define_9 (lv_at hl 5 rfl) ?_
  have hPc := hP.sub (ws' := [(h0, .inr (5, [.ref s0, .ref de, .ref kl, .ref tl, .ref cu, .ref hk, .ref ca, .int 0, .int 0, .int (-1), .int 0, .int 0])), (kl, .inr (2, [.ref kx, .ref ky, .int 0])), (tl, .inr (4, [.ref tx, .ref ty, .int 1])), (s0, .inr (3, [.ref a0, .ref a1, .ref a2, .ref a3, .ref a4, .ref a5, .ref a6, .int 0, .ref a7, .ref a8, .ref a9, .ref a10, .ref a11, .int 0]))]) [0, 1, 2, 3] rfl
  have hDc := hD.sub (ws' := [(h0, .inr (5, [.ref s0, .ref de, .ref kl, .ref tl, .ref cu, .ref hk, .ref ca, .int 0, .int 0, .int (-1), .int 0, .int 0])), (kl, .inr (2, [.ref kx, .ref ky, .int 0])), (tl, .inr (4, [.ref tx, .ref ty, .int 1])), (s0, .inr (3, [.ref a0, .ref a1, .ref a2, .ref a3, .ref a4, .ref a5, .ref a6, .int 0, .ref a7, .ref a8, .ref a9, .ref a10, .ref a11, .int 0]))]) [0, 1, 2, 3] (by decide) rfl
  have hFc := va_free (wc := [(h0, .inr (5, [.ref s0, .ref de, .ref kl, .ref tl, .ref cu, .ref hk, .ref ca, .int 0, .int 0, .int (-1), .int 0, .int 0])), (kl, .inr (2, [.ref kx, .ref ky, .int 0])), (tl, .inr (4, [.ref tx, .ref ty, .int 1])), (s0, .inr (3, [.ref a0, .ref a1, .ref a2, .ref a3, .ref a4, .ref a5, .ref a6, .int 0, .ref a7, .ref a8, .ref a9, .ref a10, .ref a11, .int 0]))]) hD hS hA [0, 1, 2, 3] rfl
  refine vx_calli (vx_runV (As := [.int p0, .int p1, .int p2, .int p3, .int p4]) (rest := [.int 0, .ref ou]) ⟨hx, hb, hml, hown, ht⟩ (k5_define l hl0 D C b0 s.heap.size h0 s0 de kl tl cu hk ca kx ky tx ty a0 a1 a2 a3 a4 a5 a6 a7 a8 a9 a10 a11 p0 p1 p2 p3 p4) (cwV 5 ht (xg_V m_517 m_518 m_519 m_281 m_187) rfl rfl rfl (by decide +kernel) ⟨Nat.le_of_ble_eq_true rfl, Nat.le_of_ble_eq_true rfl⟩) ⟨xPc_bl, va_recv hK hPc (ci := 5) (q0 := 0) rfl rfl, xPc_at hPc hK hDc hE hS hAb⟩ rfl rfl hl.1 rfl (lv_room (Nat.le_of_ble_eq_true rfl)) dL_define_11 ⟨(by decide), (by decide)⟩) hS (fun q _ h => hFc q h) hFc (fun q _ h => hFc q h) (fun E ce q9 u9 t9 H9 locs9 e9 v9 p9 b9 z9 k9 hS9 hc9 hn9 hf9 => ?_) (fun r_1 u_2 t H1 locs ht1 hvm hw hB hz1 hk1 hS => ?_)
  · skip
    obtain rfl := b9
    obtain ⟨hP, hD⟩ := va_join (wr := [(ou, .inl (C 2, 1, .inr (.inl fo)))]) (w1 := []) hP hD [0, 1, 2, 3] [4] rfl rfl (by decide) (by decide) k9 hFc (fun k q h => by simp at h) ⟨fun i j p q h => by simp at h, fun k q h => by simp at h⟩
    have hP : va_P D vwCl [(ou, .inl (C 2, 1, .inr (.inl fo)))] H9 := hP
    have hD : va_D A [(ou, .inl (C 2, 1, .inr (.inl fo)))] := hD
    have hS := hS9
    refine x_catch hown ⟨0, 23, 26, 13⟩ [⟨0, 23, 30, 36⟩, ⟨0, 23, 34, 38⟩, ⟨0, 23, 38, 40⟩, ⟨0, 23, 42, 15⟩] (hsplit.trans rfl) (by decide) (by decide) (ht _ m_492) (hE.use (by decide +kernel)) hc9 hn9 hf9 ?_
    refine W.widen (k := 3) (n := 18) (by decide) (by decide) ?_
    refine lv_astore (lv' := [(7, .ref q9), (0, .ref h0), (1, .int p0), (2, .int p1), (3, .int p2), (4, .int p3), (5, .int p4), (6, .ref ou)]) hx hb dL_define_26 hl (by decide) rfl (fun ls hl => ?_)
    refine lv_iconst (v := 1) hx hb dL_define_28 (by decide) ?_
    have hP9 := hP.sub (ws' := [(ou, .inl (C 2, 1, .inr (.inl fo)))]) [0] rfl
    have hD9 := hD.sub (ws' := [(ou, .inl (C 2, 1, .inr (.inl fo)))]) [0] (by decide) rfl
    refine W.widen (k := 3) (n := 18) (by decide) (by decide) ?_
    exact W.iret (v := 1) hx hb hr (fun t ht1 hW => ⟨⟨1, fo, rfl, by first | trivial | rfl | assumption | decide | (simp_all; done), by rw [ht1]; exact hP9, hD9⟩, hS.F ht1⟩) hS.2.2 dL_define_29
  · exact hw.elim
set_option maxHeartbeats 4000000 in
set_option maxRecDepth 100000 in
theorem kL_about (l : Launch) (hl0 : l.stackTraces = false) (D : va_G) (C : Nat → ClassId) (b0 sz : Nat) (h0 : Nat) (s0 : Nat) (de : Nat) (kl : Nat) (tl : Nat) (cu : Nat) (hk : Nat) (ca : Nat) (kx : Nat) (ky : Nat) (tx : Nat) (ty : Nat) (a0 : Nat) (a1 : Nat) (a2 : Nat) (a3 : Nat) (a4 : Nat) (a5 : Nat) (a6 : Nat) (a7 : Nat) (a8 : Nat) (a9 : Nat) (a10 : Nat) (a11 : Nat) (p0 : Int32) (p1 : Int32) (p2 : Int32) (ou : Nat) (fo : Nat → Int64) : Met l yL_about (xwh yL_about cL_about 6 (some .int) [(0, 12, 15, 13), (0, 12, 19, 36), (0, 12, 23, 38), (0, 12, 27, 40), (0, 12, 31, 15)]) ({ frames := 64, cells := 3, slots := 18, locals := 1200 }) (xPc D C b0 [.ref h0, .int p0, .int p1, .int p2, .ref ou] [(h0, .inr (5, [.ref s0, .ref de, .ref kl, .ref tl, .ref cu, .ref hk, .ref ca, .int 0, .int 0, .int (-1), .int 0, .int 0])), (kl, .inr (2, [.ref kx, .ref ky, .int 0])), (tl, .inr (4, [.ref tx, .ref ty, .int 1])), (s0, .inr (3, [.ref a0, .ref a1, .ref a2, .ref a3, .ref a4, .ref a5, .ref a6, .int 0, .ref a7, .ref a8, .ref a9, .ref a10, .ref a11, .int 0])), (ou, .inl (C 2, 1, .inr (.inl fo)))] sz) (va_Qi (fun (r : Int32) (u : Nat → Int64) => r = 1) (xBw D (va_A [(h0, .inr (5, [.ref s0, .ref de, .ref kl, .ref tl, .ref cu, .ref hk, .ref ca, .int 0, .int 0, .int (-1), .int 0, .int 0])), (kl, .inr (2, [.ref kx, .ref ky, .int 0])), (tl, .inr (4, [.ref tx, .ref ty, .int 1])), (s0, .inr (3, [.ref a0, .ref a1, .ref a2, .ref a3, .ref a4, .ref a5, .ref a6, .int 0, .ref a7, .ref a8, .ref a9, .ref a10, .ref a11, .int 0])), (ou, .inl (C 2, 1, .inr (.inl fo)))] sz) (fun u => [(ou, .inl (C 2, 1, .inr (.inl (u))))])) (va_A [(h0, .inr (5, [.ref s0, .ref de, .ref kl, .ref tl, .ref cu, .ref hk, .ref ca, .int 0, .int 0, .int (-1), .int 0, .int 0])), (kl, .inr (2, [.ref kx, .ref ky, .int 0])), (tl, .inr (4, [.ref tx, .ref ty, .int 1])), (s0, .inr (3, [.ref a0, .ref a1, .ref a2, .ref a3, .ref a4, .ref a5, .ref a6, .int 0, .ref a7, .ref a8, .ref a9, .ref a10, .ref a11, .int 0])), (ou, .inl (C 2, 1, .inr (.inl fo)))] sz)) 3 18 (va_A [(h0, .inr (5, [.ref s0, .ref de, .ref kl, .ref tl, .ref cu, .ref hk, .ref ca, .int 0, .int 0, .int (-1), .int 0, .int 0])), (kl, .inr (2, [.ref kx, .ref ky, .int 0])), (tl, .inr (4, [.ref tx, .ref ty, .int 1])), (s0, .inr (3, [.ref a0, .ref a1, .ref a2, .ref a3, .ref a4, .ref a5, .ref a6, .int 0, .ref a7, .ref a8, .ref a9, .ref a10, .ref a11, .int 0])), (ou, .inl (C 2, 1, .inr (.inl fo)))] sz) := by
  refine va_MetW (cc := cL_about) (maxL := 6) (ret := (some .int)) (by decide) rfl ?_
  intro p e s m args below meth c s₁ B hml hv
  obtain ⟨rfl, hsz, hP, hK, hD0, hE⟩ := hv
  have hx := B.exec
  have hb := B.bytes
  have hr := B.returns
  have ht : ∀ w ∈ xb, w.before _ s = true := fun w h => atoms_spec (ws := xwh yL_about cL_about 6 (some .int) [(0, 12, 15, 13), (0, 12, 19, 36), (0, 12, 23, 38), (0, 12, 27, 40), (0, 12, 31, 15)]) B.pre w (List.mem_cons_of_mem _ h)
  have hown : s.vm.findClass RL = some m.cls := findClass_of_methodNamed B.named
  have hlocks := B.notSynchronized
  have hsplit := vx_table (x := yL_about) B (atoms_spec (ws := xwh yL_about cL_about 6 (some .int) [(0, 12, 15, 13), (0, 12, 19, 36), (0, 12, 23, 38), (0, 12, 27, 40), (0, 12, 31, 15)]) B.pre _ List.mem_cons_self)
  subst hsz
  have hAb := x_Ab hD0 hE.1
  have hD := hD0.self (sz := s.heap.size)
  generalize hAe : va_A [(h0, .inr (5, [.ref s0, .ref de, .ref kl, .ref tl, .ref cu, .ref hk, .ref ca, .int 0, .int 0, .int (-1), .int 0, .int 0])), (kl, .inr (2, [.ref kx, .ref ky, .int 0])), (tl, .inr (4, [.ref tx, .ref ty, .int 1])), (s0, .inr (3, [.ref a0, .ref a1, .ref a2, .ref a3, .ref a4, .ref a5, .ref a6, .int 0, .ref a7, .ref a8, .ref a9, .ref a10, .ref a11, .int 0])), (ou, .inl (C 2, 1, .inr (.inl fo)))] s.heap.size = A at hD hAb ⊢
  have hA : ∀ q : Nat, s.heap.size ≤ q → A q := fun q h => by rw [← hAe]; exact Or.inr h
  have hS : va_S A s.heap s.heap [] := va_S.rf
  have hP : va_P D vwCl [(h0, .inr (5, [.ref s0, .ref de, .ref kl, .ref tl, .ref cu, .ref hk, .ref ca, .int 0, .int 0, .int (-1), .int 0, .int 0])), (kl, .inr (2, [.ref kx, .ref ky, .int 0])), (tl, .inr (4, [.ref tx, .ref ty, .int 1])), (s0, .inr (3, [.ref a0, .ref a1, .ref a2, .ref a3, .ref a4, .ref a5, .ref a6, .int 0, .ref a7, .ref a8, .ref a9, .ref a10, .ref a11, .int 0])), (ou, .inl (C 2, 1, .inr (.inl fo)))] s.heap := hP
  have hl := lv_entry ([.ref h0, .int p0, .int p1, .int p2, .ref ou]) (n := 6) (Nat.le_of_ble_eq_true rfl)
  rw [lg_entry_eq]
  generalize (lg_sl ([.ref h0, .int p0, .int p1, .int p2, .ref ou]) ++ List.replicate (6 - (lg_sl ([.ref h0, .int p0, .int p1, .int p2, .ref ou])).length) Slot.unset).toArray = ls at hl ⊢
  have hl : lv_has ls 6 [(0, .ref h0), (1, .int p0), (2, .int p1), (3, .int p2), (4, .ref ou)] := hl
  refine lv_aload hx hb dL_about_0 (lv_at hl 4 rfl) ?_
  refine lv_iconst (v := 0) hx hb dL_about_2 (by decide) ?_
  refine lv_aload_n hx hb dL_about_3 rfl (lv_at hl 0 rfl) ?_
  refine lv_iload_n hx hb dL_about_4 rfl (lv_at hl 1 rfl) ?_
  refine lv_iload_n hx hb dL_about_5 rfl (lv_at hl 2 rfl) ?_
  refine lv_iload_n hx hb dL_about_6 rfl (lv_at hl 3 rfl) ?_
  have hPc := hP.sub (ws' := [(h0, .inr (5, [.ref s0, .ref de, .ref kl, .ref tl, .ref cu, .ref hk, .ref ca, .int 0, .int 0, .int (-1), .int 0, .int 0])), (kl, .inr (2, [.ref kx, .ref ky, .int 0])), (tl, .inr (4, [.ref tx, .ref ty, .int 1])), (s0, .inr (3, [.ref a0, .ref a1, .ref a2, .ref a3, .ref a4, .ref a5, .ref a6, .int 0, .ref a7, .ref a8, .ref a9, .ref a10, .ref a11, .int 0]))]) [0, 1, 2, 3] rfl
  have hDc := hD.sub (ws' := [(h0, .inr (5, [.ref s0, .ref de, .ref kl, .ref tl, .ref cu, .ref hk, .ref ca, .int 0, .int 0, .int (-1), .int 0, .int 0])), (kl, .inr (2, [.ref kx, .ref ky, .int 0])), (tl, .inr (4, [.ref tx, .ref ty, .int 1])), (s0, .inr (3, [.ref a0, .ref a1, .ref a2, .ref a3, .ref a4, .ref a5, .ref a6, .int 0, .ref a7, .ref a8, .ref a9, .ref a10, .ref a11, .int 0]))]) [0, 1, 2, 3] (by decide) rfl
  have hFc := va_free (wc := [(h0, .inr (5, [.ref s0, .ref de, .ref kl, .ref tl, .ref cu, .ref hk, .ref ca, .int 0, .int 0, .int (-1), .int 0, .int 0])), (kl, .inr (2, [.ref kx, .ref ky, .int 0])), (tl, .inr (4, [.ref tx, .ref ty, .int 1])), (s0, .inr (3, [.ref a0, .ref a1, .ref a2, .ref a3, .ref a4, .ref a5, .ref a6, .int 0, .ref a7, .ref a8, .ref a9, .ref a10, .ref a11, .int 0]))]) hD hS hA [0, 1, 2, 3] rfl
  refine vx_calli (vx_runV (As := [.int p0, .int p1, .int p2]) (rest := [.int 0, .ref ou]) ⟨hx, hb, hml, hown, ht⟩ (k5_about l hl0 D C b0 s.heap.size h0 s0 de kl tl cu hk ca kx ky tx ty a0 a1 a2 a3 a4 a5 a6 a7 a8 a9 a10 a11 p0 p1 p2) (cwV 3 ht (xg_V m_520 m_521 m_522 m_281 m_188) rfl rfl rfl (by decide +kernel) ⟨Nat.le_of_ble_eq_true rfl, Nat.le_of_ble_eq_true rfl⟩) ⟨xPc_bl, va_recv hK hPc (ci := 5) (q0 := 0) rfl rfl, xPc_at hPc hK hDc hE hS hAb⟩ rfl rfl hl.1 rfl (lv_room (Nat.le_of_ble_eq_true rfl)) dL_about_7 ⟨(by decide), (by decide)⟩) hS (fun q _ h => hFc q h) hFc (fun q _ h => hFc q h) (fun E ce q9 u9 t9 H9 locs9 e9 v9 p9 b9 z9 k9 hS9 hc9 hn9 hf9 => ?_) (fun r_1 u_2 t H1 locs ht1 hvm hw hB hz1 hk1 hS => ?_)
  · skip
    obtain rfl := b9
    obtain ⟨hP, hD⟩ := va_join (wr := [(ou, .inl (C 2, 1, .inr (.inl fo)))]) (w1 := []) hP hD [0, 1, 2, 3] [4] rfl rfl (by decide) (by decide) k9 hFc (fun k q h => by simp at h) ⟨fun i j p q h => by simp at h, fun k q h => by simp at h⟩
    have hP : va_P D vwCl [(ou, .inl (C 2, 1, .inr (.inl fo)))] H9 := hP
    have hD : va_D A [(ou, .inl (C 2, 1, .inr (.inl fo)))] := hD
    have hS := hS9
    refine x_catch hown ⟨0, 12, 15, 13⟩ [⟨0, 12, 19, 36⟩, ⟨0, 12, 23, 38⟩, ⟨0, 12, 27, 40⟩, ⟨0, 12, 31, 15⟩] (hsplit.trans rfl) (by decide) (by decide) (ht _ m_492) (hE.use (by decide +kernel)) hc9 hn9 hf9 ?_
    refine W.widen (k := 3) (n := 18) (by decide) (by decide) ?_
    refine lv_astore (lv' := [(5, .ref q9), (0, .ref h0), (1, .int p0), (2, .int p1), (3, .int p2), (4, .ref ou)]) hx hb dL_about_15 hl (by decide) rfl (fun ls hl => ?_)
    refine lv_iconst (v := 1) hx hb dL_about_17 (by decide) ?_
    have hP9 := hP.sub (ws' := [(ou, .inl (C 2, 1, .inr (.inl fo)))]) [0] rfl
    have hD9 := hD.sub (ws' := [(ou, .inl (C 2, 1, .inr (.inl fo)))]) [0] (by decide) rfl
    refine W.widen (k := 3) (n := 18) (by decide) (by decide) ?_
    exact W.iret (v := 1) hx hb hr (fun t ht1 hW => ⟨⟨1, fo, rfl, by first | trivial | rfl | assumption | decide | (simp_all; done), by rw [ht1]; exact hP9, hD9⟩, hS.F ht1⟩) hS.2.2 dL_about_18
  · exact hw.elim
set_option maxHeartbeats 4000000 in
set_option maxRecDepth 100000 in
theorem kL_keys (l : Launch) (hl0 : l.stackTraces = false) (D : va_G) (C : Nat → ClassId) (b0 sz : Nat) (h0 : Nat) (s0 : Nat) (de : Nat) (kl : Nat) (tl : Nat) (cu : Nat) (hk : Nat) (ca : Nat) (kx : Nat) (ky : Nat) (tx : Nat) (ty : Nat) (a0 : Nat) (a1 : Nat) (a2 : Nat) (a3 : Nat) (a4 : Nat) (a5 : Nat) (a6 : Nat) (a7 : Nat) (a8 : Nat) (a9 : Nat) (a10 : Nat) (a11 : Nat) (p0 : Int32) (p1 : Int32) (ou : Nat) (fo : Nat → Int64) : Met l yL_keys (xwh yL_keys cL_keys 5 (some .int) [(0, 10, 13, 13), (0, 10, 17, 36), (0, 10, 21, 38), (0, 10, 25, 40), (0, 10, 29, 15)]) ({ frames := 64, cells := 3, slots := 18, locals := 1200 }) (xPc D C b0 [.ref h0, .int p0, .int p1, .ref ou] [(h0, .inr (5, [.ref s0, .ref de, .ref kl, .ref tl, .ref cu, .ref hk, .ref ca, .int 0, .int 0, .int (-1), .int 0, .int 0])), (kl, .inr (2, [.ref kx, .ref ky, .int 0])), (tl, .inr (4, [.ref tx, .ref ty, .int 1])), (s0, .inr (3, [.ref a0, .ref a1, .ref a2, .ref a3, .ref a4, .ref a5, .ref a6, .int 0, .ref a7, .ref a8, .ref a9, .ref a10, .ref a11, .int 0])), (ou, .inl (C 2, 1, .inr (.inl fo)))] sz) (va_Qi (fun (r : Int32) (u : Nat → Int64) => r = 1) (xBw D (va_A [(h0, .inr (5, [.ref s0, .ref de, .ref kl, .ref tl, .ref cu, .ref hk, .ref ca, .int 0, .int 0, .int (-1), .int 0, .int 0])), (kl, .inr (2, [.ref kx, .ref ky, .int 0])), (tl, .inr (4, [.ref tx, .ref ty, .int 1])), (s0, .inr (3, [.ref a0, .ref a1, .ref a2, .ref a3, .ref a4, .ref a5, .ref a6, .int 0, .ref a7, .ref a8, .ref a9, .ref a10, .ref a11, .int 0])), (ou, .inl (C 2, 1, .inr (.inl fo)))] sz) (fun u => [(ou, .inl (C 2, 1, .inr (.inl (u))))])) (va_A [(h0, .inr (5, [.ref s0, .ref de, .ref kl, .ref tl, .ref cu, .ref hk, .ref ca, .int 0, .int 0, .int (-1), .int 0, .int 0])), (kl, .inr (2, [.ref kx, .ref ky, .int 0])), (tl, .inr (4, [.ref tx, .ref ty, .int 1])), (s0, .inr (3, [.ref a0, .ref a1, .ref a2, .ref a3, .ref a4, .ref a5, .ref a6, .int 0, .ref a7, .ref a8, .ref a9, .ref a10, .ref a11, .int 0])), (ou, .inl (C 2, 1, .inr (.inl fo)))] sz)) 3 18 (va_A [(h0, .inr (5, [.ref s0, .ref de, .ref kl, .ref tl, .ref cu, .ref hk, .ref ca, .int 0, .int 0, .int (-1), .int 0, .int 0])), (kl, .inr (2, [.ref kx, .ref ky, .int 0])), (tl, .inr (4, [.ref tx, .ref ty, .int 1])), (s0, .inr (3, [.ref a0, .ref a1, .ref a2, .ref a3, .ref a4, .ref a5, .ref a6, .int 0, .ref a7, .ref a8, .ref a9, .ref a10, .ref a11, .int 0])), (ou, .inl (C 2, 1, .inr (.inl fo)))] sz) := by
  refine va_MetW (cc := cL_keys) (maxL := 5) (ret := (some .int)) (by decide) rfl ?_
  intro p e s m args below meth c s₁ B hml hv
  obtain ⟨rfl, hsz, hP, hK, hD0, hE⟩ := hv
  have hx := B.exec
  have hb := B.bytes
  have hr := B.returns
  have ht : ∀ w ∈ xb, w.before _ s = true := fun w h => atoms_spec (ws := xwh yL_keys cL_keys 5 (some .int) [(0, 10, 13, 13), (0, 10, 17, 36), (0, 10, 21, 38), (0, 10, 25, 40), (0, 10, 29, 15)]) B.pre w (List.mem_cons_of_mem _ h)
  have hown : s.vm.findClass RL = some m.cls := findClass_of_methodNamed B.named
  have hlocks := B.notSynchronized
  have hsplit := vx_table (x := yL_keys) B (atoms_spec (ws := xwh yL_keys cL_keys 5 (some .int) [(0, 10, 13, 13), (0, 10, 17, 36), (0, 10, 21, 38), (0, 10, 25, 40), (0, 10, 29, 15)]) B.pre _ List.mem_cons_self)
  subst hsz
  have hAb := x_Ab hD0 hE.1
  have hD := hD0.self (sz := s.heap.size)
  generalize hAe : va_A [(h0, .inr (5, [.ref s0, .ref de, .ref kl, .ref tl, .ref cu, .ref hk, .ref ca, .int 0, .int 0, .int (-1), .int 0, .int 0])), (kl, .inr (2, [.ref kx, .ref ky, .int 0])), (tl, .inr (4, [.ref tx, .ref ty, .int 1])), (s0, .inr (3, [.ref a0, .ref a1, .ref a2, .ref a3, .ref a4, .ref a5, .ref a6, .int 0, .ref a7, .ref a8, .ref a9, .ref a10, .ref a11, .int 0])), (ou, .inl (C 2, 1, .inr (.inl fo)))] s.heap.size = A at hD hAb ⊢
  have hA : ∀ q : Nat, s.heap.size ≤ q → A q := fun q h => by rw [← hAe]; exact Or.inr h
  have hS : va_S A s.heap s.heap [] := va_S.rf
  have hP : va_P D vwCl [(h0, .inr (5, [.ref s0, .ref de, .ref kl, .ref tl, .ref cu, .ref hk, .ref ca, .int 0, .int 0, .int (-1), .int 0, .int 0])), (kl, .inr (2, [.ref kx, .ref ky, .int 0])), (tl, .inr (4, [.ref tx, .ref ty, .int 1])), (s0, .inr (3, [.ref a0, .ref a1, .ref a2, .ref a3, .ref a4, .ref a5, .ref a6, .int 0, .ref a7, .ref a8, .ref a9, .ref a10, .ref a11, .int 0])), (ou, .inl (C 2, 1, .inr (.inl fo)))] s.heap := hP
  have hl := lv_entry ([.ref h0, .int p0, .int p1, .ref ou]) (n := 5) (Nat.le_of_ble_eq_true rfl)
  rw [lg_entry_eq]
  generalize (lg_sl ([.ref h0, .int p0, .int p1, .ref ou]) ++ List.replicate (5 - (lg_sl ([.ref h0, .int p0, .int p1, .ref ou])).length) Slot.unset).toArray = ls at hl ⊢
  have hl : lv_has ls 5 [(0, .ref h0), (1, .int p0), (2, .int p1), (3, .ref ou)] := hl
  refine lv_aload_n hx hb dL_keys_0 rfl (lv_at hl 3 rfl) ?_
  refine lv_iconst (v := 0) hx hb dL_keys_1 (by decide) ?_
  refine lv_aload_n hx hb dL_keys_2 rfl (lv_at hl 0 rfl) ?_
  refine lv_iload_n hx hb dL_keys_3 rfl (lv_at hl 1 rfl) ?_
  refine lv_iload_n hx hb dL_keys_4 rfl (lv_at hl 2 rfl) ?_
  have hPc := hP.sub (ws' := [(h0, .inr (5, [.ref s0, .ref de, .ref kl, .ref tl, .ref cu, .ref hk, .ref ca, .int 0, .int 0, .int (-1), .int 0, .int 0])), (kl, .inr (2, [.ref kx, .ref ky, .int 0])), (tl, .inr (4, [.ref tx, .ref ty, .int 1])), (s0, .inr (3, [.ref a0, .ref a1, .ref a2, .ref a3, .ref a4, .ref a5, .ref a6, .int 0, .ref a7, .ref a8, .ref a9, .ref a10, .ref a11, .int 0]))]) [0, 1, 2, 3] rfl
  have hDc := hD.sub (ws' := [(h0, .inr (5, [.ref s0, .ref de, .ref kl, .ref tl, .ref cu, .ref hk, .ref ca, .int 0, .int 0, .int (-1), .int 0, .int 0])), (kl, .inr (2, [.ref kx, .ref ky, .int 0])), (tl, .inr (4, [.ref tx, .ref ty, .int 1])), (s0, .inr (3, [.ref a0, .ref a1, .ref a2, .ref a3, .ref a4, .ref a5, .ref a6, .int 0, .ref a7, .ref a8, .ref a9, .ref a10, .ref a11, .int 0]))]) [0, 1, 2, 3] (by decide) rfl
  have hFc := va_free (wc := [(h0, .inr (5, [.ref s0, .ref de, .ref kl, .ref tl, .ref cu, .ref hk, .ref ca, .int 0, .int 0, .int (-1), .int 0, .int 0])), (kl, .inr (2, [.ref kx, .ref ky, .int 0])), (tl, .inr (4, [.ref tx, .ref ty, .int 1])), (s0, .inr (3, [.ref a0, .ref a1, .ref a2, .ref a3, .ref a4, .ref a5, .ref a6, .int 0, .ref a7, .ref a8, .ref a9, .ref a10, .ref a11, .int 0]))]) hD hS hA [0, 1, 2, 3] rfl
  refine vx_calli (vx_runV (As := [.int p0, .int p1]) (rest := [.int 0, .ref ou]) ⟨hx, hb, hml, hown, ht⟩ (k5_keys l hl0 D C b0 s.heap.size h0 s0 de kl tl cu hk ca kx ky tx ty a0 a1 a2 a3 a4 a5 a6 a7 a8 a9 a10 a11 p0 p1) (cwV 2 ht (xg_V m_523 m_524 m_525 m_281 m_189) rfl rfl rfl (by decide +kernel) ⟨Nat.le_of_ble_eq_true rfl, Nat.le_of_ble_eq_true rfl⟩) ⟨xPc_bl, va_recv hK hPc (ci := 5) (q0 := 0) rfl rfl, xPc_at hPc hK hDc hE hS hAb⟩ rfl rfl hl.1 rfl (lv_room (Nat.le_of_ble_eq_true rfl)) dL_keys_5 ⟨(by decide), (by decide)⟩) hS (fun q _ h => hFc q h) hFc (fun q _ h => hFc q h) (fun E ce q9 u9 t9 H9 locs9 e9 v9 p9 b9 z9 k9 hS9 hc9 hn9 hf9 => ?_) (fun r_1 u_2 t H1 locs ht1 hvm hw hB hz1 hk1 hS => ?_)
  · skip
    obtain rfl := b9
    obtain ⟨hP, hD⟩ := va_join (wr := [(ou, .inl (C 2, 1, .inr (.inl fo)))]) (w1 := []) hP hD [0, 1, 2, 3] [4] rfl rfl (by decide) (by decide) k9 hFc (fun k q h => by simp at h) ⟨fun i j p q h => by simp at h, fun k q h => by simp at h⟩
    have hP : va_P D vwCl [(ou, .inl (C 2, 1, .inr (.inl fo)))] H9 := hP
    have hD : va_D A [(ou, .inl (C 2, 1, .inr (.inl fo)))] := hD
    have hS := hS9
    refine x_catch hown ⟨0, 10, 13, 13⟩ [⟨0, 10, 17, 36⟩, ⟨0, 10, 21, 38⟩, ⟨0, 10, 25, 40⟩, ⟨0, 10, 29, 15⟩] (hsplit.trans rfl) (by decide) (by decide) (ht _ m_492) (hE.use (by decide +kernel)) hc9 hn9 hf9 ?_
    refine W.widen (k := 3) (n := 18) (by decide) (by decide) ?_
    refine lv_astore (lv' := [(4, .ref q9), (0, .ref h0), (1, .int p0), (2, .int p1), (3, .ref ou)]) hx hb dL_keys_13 hl (by decide) rfl (fun ls hl => ?_)
    refine lv_iconst (v := 1) hx hb dL_keys_15 (by decide) ?_
    have hP9 := hP.sub (ws' := [(ou, .inl (C 2, 1, .inr (.inl fo)))]) [0] rfl
    have hD9 := hD.sub (ws' := [(ou, .inl (C 2, 1, .inr (.inl fo)))]) [0] (by decide) rfl
    refine W.widen (k := 3) (n := 18) (by decide) (by decide) ?_
    exact W.iret (v := 1) hx hb hr (fun t ht1 hW => ⟨⟨1, fo, rfl, by first | trivial | rfl | assumption | decide | (simp_all; done), by rw [ht1]; exact hP9, hD9⟩, hS.F ht1⟩) hS.2.2 dL_keys_16
  · exact hw.elim
set_option maxHeartbeats 4000000 in
set_option maxRecDepth 100000 in
theorem kL_key (l : Launch) (hl0 : l.stackTraces = false) (D : va_G) (C : Nat → ClassId) (b0 sz : Nat) (h0 : Nat) (s0 : Nat) (de : Nat) (kl : Nat) (tl : Nat) (cu : Nat) (hk : Nat) (ca : Nat) (kx : Nat) (ky : Nat) (tx : Nat) (ty : Nat) (a0 : Nat) (a1 : Nat) (a2 : Nat) (a3 : Nat) (a4 : Nat) (a5 : Nat) (a6 : Nat) (a7 : Nat) (a8 : Nat) (a9 : Nat) (a10 : Nat) (a11 : Nat) (p0 : Int32) (ou : Nat) (fo : Nat → Int64) : Met l yL_key (xwh yL_key cL_key 4 (some .int) [(0, 9, 12, 68)]) ({ frames := 64, cells := 3, slots := 18, locals := 1200 }) (xPc D C b0 [.ref h0, .int p0, .ref ou] [(h0, .inr (5, [.ref s0, .ref de, .ref kl, .ref tl, .ref cu, .ref hk, .ref ca, .int 0, .int 0, .int (-1), .int 0, .int 0])), (kl, .inr (2, [.ref kx, .ref ky, .int 0])), (tl, .inr (4, [.ref tx, .ref ty, .int 1])), (s0, .inr (3, [.ref a0, .ref a1, .ref a2, .ref a3, .ref a4, .ref a5, .ref a6, .int 0, .ref a7, .ref a8, .ref a9, .ref a10, .ref a11, .int 0])), (ou, .inl (C 2, 1, .inr (.inl fo)))] sz) (va_Qi (fun (r : Int32) (u : Nat → Int64) => r = 1) (xBw D (va_A [(h0, .inr (5, [.ref s0, .ref de, .ref kl, .ref tl, .ref cu, .ref hk, .ref ca, .int 0, .int 0, .int (-1), .int 0, .int 0])), (kl, .inr (2, [.ref kx, .ref ky, .int 0])), (tl, .inr (4, [.ref tx, .ref ty, .int 1])), (s0, .inr (3, [.ref a0, .ref a1, .ref a2, .ref a3, .ref a4, .ref a5, .ref a6, .int 0, .ref a7, .ref a8, .ref a9, .ref a10, .ref a11, .int 0])), (ou, .inl (C 2, 1, .inr (.inl fo)))] sz) (fun u => [(ou, .inl (C 2, 1, .inr (.inl (u))))])) (va_A [(h0, .inr (5, [.ref s0, .ref de, .ref kl, .ref tl, .ref cu, .ref hk, .ref ca, .int 0, .int 0, .int (-1), .int 0, .int 0])), (kl, .inr (2, [.ref kx, .ref ky, .int 0])), (tl, .inr (4, [.ref tx, .ref ty, .int 1])), (s0, .inr (3, [.ref a0, .ref a1, .ref a2, .ref a3, .ref a4, .ref a5, .ref a6, .int 0, .ref a7, .ref a8, .ref a9, .ref a10, .ref a11, .int 0])), (ou, .inl (C 2, 1, .inr (.inl fo)))] sz)) 3 18 (va_A [(h0, .inr (5, [.ref s0, .ref de, .ref kl, .ref tl, .ref cu, .ref hk, .ref ca, .int 0, .int 0, .int (-1), .int 0, .int 0])), (kl, .inr (2, [.ref kx, .ref ky, .int 0])), (tl, .inr (4, [.ref tx, .ref ty, .int 1])), (s0, .inr (3, [.ref a0, .ref a1, .ref a2, .ref a3, .ref a4, .ref a5, .ref a6, .int 0, .ref a7, .ref a8, .ref a9, .ref a10, .ref a11, .int 0])), (ou, .inl (C 2, 1, .inr (.inl fo)))] sz) := by
  refine va_MetW (cc := cL_key) (maxL := 4) (ret := (some .int)) (by decide) rfl ?_
  intro p e s m args below meth c s₁ B hml hv
  obtain ⟨rfl, hsz, hP, hK, hD0, hE⟩ := hv
  have hx := B.exec
  have hb := B.bytes
  have hr := B.returns
  have ht : ∀ w ∈ xb, w.before _ s = true := fun w h => atoms_spec (ws := xwh yL_key cL_key 4 (some .int) [(0, 9, 12, 68)]) B.pre w (List.mem_cons_of_mem _ h)
  have hown : s.vm.findClass RL = some m.cls := findClass_of_methodNamed B.named
  have hlocks := B.notSynchronized
  have hsplit := vx_table (x := yL_key) B (atoms_spec (ws := xwh yL_key cL_key 4 (some .int) [(0, 9, 12, 68)]) B.pre _ List.mem_cons_self)
  subst hsz
  have hAb := x_Ab hD0 hE.1
  have hD := hD0.self (sz := s.heap.size)
  generalize hAe : va_A [(h0, .inr (5, [.ref s0, .ref de, .ref kl, .ref tl, .ref cu, .ref hk, .ref ca, .int 0, .int 0, .int (-1), .int 0, .int 0])), (kl, .inr (2, [.ref kx, .ref ky, .int 0])), (tl, .inr (4, [.ref tx, .ref ty, .int 1])), (s0, .inr (3, [.ref a0, .ref a1, .ref a2, .ref a3, .ref a4, .ref a5, .ref a6, .int 0, .ref a7, .ref a8, .ref a9, .ref a10, .ref a11, .int 0])), (ou, .inl (C 2, 1, .inr (.inl fo)))] s.heap.size = A at hD hAb ⊢
  have hA : ∀ q : Nat, s.heap.size ≤ q → A q := fun q h => by rw [← hAe]; exact Or.inr h
  have hS : va_S A s.heap s.heap [] := va_S.rf
  have hP : va_P D vwCl [(h0, .inr (5, [.ref s0, .ref de, .ref kl, .ref tl, .ref cu, .ref hk, .ref ca, .int 0, .int 0, .int (-1), .int 0, .int 0])), (kl, .inr (2, [.ref kx, .ref ky, .int 0])), (tl, .inr (4, [.ref tx, .ref ty, .int 1])), (s0, .inr (3, [.ref a0, .ref a1, .ref a2, .ref a3, .ref a4, .ref a5, .ref a6, .int 0, .ref a7, .ref a8, .ref a9, .ref a10, .ref a11, .int 0])), (ou, .inl (C 2, 1, .inr (.inl fo)))] s.heap := hP
  have hl := lv_entry ([.ref h0, .int p0, .ref ou]) (n := 4) (Nat.le_of_ble_eq_true rfl)
  rw [lg_entry_eq]
  generalize (lg_sl ([.ref h0, .int p0, .ref ou]) ++ List.replicate (4 - (lg_sl ([.ref h0, .int p0, .ref ou])).length) Slot.unset).toArray = ls at hl ⊢
  have hl : lv_has ls 4 [(0, .ref h0), (1, .int p0), (2, .ref ou)] := hl
  refine lv_aload_n hx hb dL_key_0 rfl (lv_at hl 2 rfl) ?_
  refine lv_iconst (v := 0) hx hb dL_key_1 (by decide) ?_
  refine lv_aload_n hx hb dL_key_2 rfl (lv_at hl 0 rfl) ?_
  refine lv_iload_n hx hb dL_key_3 rfl (lv_at hl 1 rfl) ?_
  have hPc := hP.sub (ws' := [(h0, .inr (5, [.ref s0, .ref de, .ref kl, .ref tl, .ref cu, .ref hk, .ref ca, .int 0, .int 0, .int (-1), .int 0, .int 0])), (kl, .inr (2, [.ref kx, .ref ky, .int 0])), (tl, .inr (4, [.ref tx, .ref ty, .int 1])), (s0, .inr (3, [.ref a0, .ref a1, .ref a2, .ref a3, .ref a4, .ref a5, .ref a6, .int 0, .ref a7, .ref a8, .ref a9, .ref a10, .ref a11, .int 0]))]) [0, 1, 2, 3] rfl
  have hDc := hD.sub (ws' := [(h0, .inr (5, [.ref s0, .ref de, .ref kl, .ref tl, .ref cu, .ref hk, .ref ca, .int 0, .int 0, .int (-1), .int 0, .int 0])), (kl, .inr (2, [.ref kx, .ref ky, .int 0])), (tl, .inr (4, [.ref tx, .ref ty, .int 1])), (s0, .inr (3, [.ref a0, .ref a1, .ref a2, .ref a3, .ref a4, .ref a5, .ref a6, .int 0, .ref a7, .ref a8, .ref a9, .ref a10, .ref a11, .int 0]))]) [0, 1, 2, 3] (by decide) rfl
  have hFc := va_free (wc := [(h0, .inr (5, [.ref s0, .ref de, .ref kl, .ref tl, .ref cu, .ref hk, .ref ca, .int 0, .int 0, .int (-1), .int 0, .int 0])), (kl, .inr (2, [.ref kx, .ref ky, .int 0])), (tl, .inr (4, [.ref tx, .ref ty, .int 1])), (s0, .inr (3, [.ref a0, .ref a1, .ref a2, .ref a3, .ref a4, .ref a5, .ref a6, .int 0, .ref a7, .ref a8, .ref a9, .ref a10, .ref a11, .int 0]))]) hD hS hA [0, 1, 2, 3] rfl
  refine vx_calli (vx_runV (As := [.int p0]) (rest := [.int 0, .ref ou]) ⟨hx, hb, hml, hown, ht⟩ (k5_key l hl0 D C b0 s.heap.size h0 s0 de kl tl cu hk ca kx ky tx ty a0 a1 a2 a3 a4 a5 a6 a7 a8 a9 a10 a11 p0) (cwV 1 ht (xg_V m_526 m_527 m_528 m_281 m_197) rfl rfl rfl (by decide +kernel) ⟨Nat.le_of_ble_eq_true rfl, Nat.le_of_ble_eq_true rfl⟩) ⟨xPc_bl, va_recv hK hPc (ci := 5) (q0 := 0) rfl rfl, xPc_at hPc hK hDc hE hS hAb⟩ rfl rfl hl.1 rfl (lv_room (Nat.le_of_ble_eq_true rfl)) dL_key_4 ⟨(by decide), (by decide)⟩) hS (fun q _ h => hFc q h) hFc (fun q _ h => hFc q h) (fun E ce q9 u9 t9 H9 locs9 e9 v9 p9 b9 z9 k9 hS9 hc9 hn9 hf9 => ?_) (fun r_1 u_2 t H1 locs ht1 hvm hw hB hz1 hk1 hS => ?_)
  · skip
    obtain rfl := b9
    obtain ⟨hP, hD⟩ := va_join (wr := [(ou, .inl (C 2, 1, .inr (.inl fo)))]) (w1 := []) hP hD [0, 1, 2, 3] [4] rfl rfl (by decide) (by decide) k9 hFc (fun k q h => by simp at h) ⟨fun i j p q h => by simp at h, fun k q h => by simp at h⟩
    have hP : va_P D vwCl [(ou, .inl (C 2, 1, .inr (.inl fo)))] H9 := hP
    have hD : va_D A [(ou, .inl (C 2, 1, .inr (.inl fo)))] := hD
    have hS := hS9
    refine x_catch hown ⟨0, 9, 12, 68⟩ [] (hsplit.trans rfl) (by decide) (by decide) (ht _ m_529) (hE.use (by decide +kernel)) hc9 hn9 hf9 ?_
    refine W.widen (k := 3) (n := 18) (by decide) (by decide) ?_
    refine lv_astore_n (lv' := [(3, .ref q9), (0, .ref h0), (1, .int p0), (2, .ref ou)]) hx hb dL_key_12 rfl hl (by decide) rfl (fun ls hl => ?_)
    refine lv_iconst (v := 1) hx hb dL_key_13 (by decide) ?_
    have hP9 := hP.sub (ws' := [(ou, .inl (C 2, 1, .inr (.inl fo)))]) [0] rfl
    have hD9 := hD.sub (ws' := [(ou, .inl (C 2, 1, .inr (.inl fo)))]) [0] (by decide) rfl
    refine W.widen (k := 3) (n := 18) (by decide) (by decide) ?_
    exact W.iret (v := 1) hx hb hr (fun t ht1 hW => ⟨⟨1, fo, rfl, by first | trivial | rfl | assumption | decide | (simp_all; done), by rw [ht1]; exact hP9, hD9⟩, hS.F ht1⟩) hS.2.2 dL_key_14
  · exact hw.elim
set_option maxHeartbeats 4000000 in
set_option maxRecDepth 100000 in
theorem kL_parent (l : Launch) (hl0 : l.stackTraces = false) (D : va_G) (C : Nat → ClassId) (b0 sz : Nat) (h0 : Nat) (s0 : Nat) (de : Nat) (kl : Nat) (tl : Nat) (cu : Nat) (hk : Nat) (ca : Nat) (kx : Nat) (ky : Nat) (tx : Nat) (ty : Nat) (a0 : Nat) (a1 : Nat) (a2 : Nat) (a3 : Nat) (a4 : Nat) (a5 : Nat) (a6 : Nat) (a7 : Nat) (a8 : Nat) (a9 : Nat) (a10 : Nat) (a11 : Nat) (p0 : Int32) (ou : Nat) (fo : Nat → Int64) : Met l yL_parent (xwh yL_parent cL_parent 4 (some .int) [(0, 9, 12, 13), (0, 9, 15, 36), (0, 9, 18, 38), (0, 9, 21, 40), (0, 9, 24, 15)]) ({ frames := 64, cells := 3, slots := 18, locals := 1200 }) (xPc D C b0 [.ref h0, .int p0, .ref ou] [(h0, .inr (5, [.ref s0, .ref de, .ref kl, .ref tl, .ref cu, .ref hk, .ref ca, .int 0, .int 0, .int (-1), .int 0, .int 0])), (kl, .inr (2, [.ref kx, .ref ky, .int 0])), (tl, .inr (4, [.ref tx, .ref ty, .int 1])), (s0, .inr (3, [.ref a0, .ref a1, .ref a2, .ref a3, .ref a4, .ref a5, .ref a6, .int 0, .ref a7, .ref a8, .ref a9, .ref a10, .ref a11, .int 0])), (ou, .inl (C 2, 1, .inr (.inl fo)))] sz) (va_Qi (fun (r : Int32) (u : Nat → Int64) => r = 1) (xBw D (va_A [(h0, .inr (5, [.ref s0, .ref de, .ref kl, .ref tl, .ref cu, .ref hk, .ref ca, .int 0, .int 0, .int (-1), .int 0, .int 0])), (kl, .inr (2, [.ref kx, .ref ky, .int 0])), (tl, .inr (4, [.ref tx, .ref ty, .int 1])), (s0, .inr (3, [.ref a0, .ref a1, .ref a2, .ref a3, .ref a4, .ref a5, .ref a6, .int 0, .ref a7, .ref a8, .ref a9, .ref a10, .ref a11, .int 0])), (ou, .inl (C 2, 1, .inr (.inl fo)))] sz) (fun u => [(ou, .inl (C 2, 1, .inr (.inl (u))))])) (va_A [(h0, .inr (5, [.ref s0, .ref de, .ref kl, .ref tl, .ref cu, .ref hk, .ref ca, .int 0, .int 0, .int (-1), .int 0, .int 0])), (kl, .inr (2, [.ref kx, .ref ky, .int 0])), (tl, .inr (4, [.ref tx, .ref ty, .int 1])), (s0, .inr (3, [.ref a0, .ref a1, .ref a2, .ref a3, .ref a4, .ref a5, .ref a6, .int 0, .ref a7, .ref a8, .ref a9, .ref a10, .ref a11, .int 0])), (ou, .inl (C 2, 1, .inr (.inl fo)))] sz)) 3 18 (va_A [(h0, .inr (5, [.ref s0, .ref de, .ref kl, .ref tl, .ref cu, .ref hk, .ref ca, .int 0, .int 0, .int (-1), .int 0, .int 0])), (kl, .inr (2, [.ref kx, .ref ky, .int 0])), (tl, .inr (4, [.ref tx, .ref ty, .int 1])), (s0, .inr (3, [.ref a0, .ref a1, .ref a2, .ref a3, .ref a4, .ref a5, .ref a6, .int 0, .ref a7, .ref a8, .ref a9, .ref a10, .ref a11, .int 0])), (ou, .inl (C 2, 1, .inr (.inl fo)))] sz) := by
  refine va_MetW (cc := cL_parent) (maxL := 4) (ret := (some .int)) (by decide) rfl ?_
  intro p e s m args below meth c s₁ B hml hv
  obtain ⟨rfl, hsz, hP, hK, hD0, hE⟩ := hv
  have hx := B.exec
  have hb := B.bytes
  have hr := B.returns
  have ht : ∀ w ∈ xb, w.before _ s = true := fun w h => atoms_spec (ws := xwh yL_parent cL_parent 4 (some .int) [(0, 9, 12, 13), (0, 9, 15, 36), (0, 9, 18, 38), (0, 9, 21, 40), (0, 9, 24, 15)]) B.pre w (List.mem_cons_of_mem _ h)
  have hown : s.vm.findClass RL = some m.cls := findClass_of_methodNamed B.named
  have hlocks := B.notSynchronized
  have hsplit := vx_table (x := yL_parent) B (atoms_spec (ws := xwh yL_parent cL_parent 4 (some .int) [(0, 9, 12, 13), (0, 9, 15, 36), (0, 9, 18, 38), (0, 9, 21, 40), (0, 9, 24, 15)]) B.pre _ List.mem_cons_self)
  subst hsz
  have hAb := x_Ab hD0 hE.1
  have hD := hD0.self (sz := s.heap.size)
  generalize hAe : va_A [(h0, .inr (5, [.ref s0, .ref de, .ref kl, .ref tl, .ref cu, .ref hk, .ref ca, .int 0, .int 0, .int (-1), .int 0, .int 0])), (kl, .inr (2, [.ref kx, .ref ky, .int 0])), (tl, .inr (4, [.ref tx, .ref ty, .int 1])), (s0, .inr (3, [.ref a0, .ref a1, .ref a2, .ref a3, .ref a4, .ref a5, .ref a6, .int 0, .ref a7, .ref a8, .ref a9, .ref a10, .ref a11, .int 0])), (ou, .inl (C 2, 1, .inr (.inl fo)))] s.heap.size = A at hD hAb ⊢
  have hA : ∀ q : Nat, s.heap.size ≤ q → A q := fun q h => by rw [← hAe]; exact Or.inr h
  have hS : va_S A s.heap s.heap [] := va_S.rf
  have hP : va_P D vwCl [(h0, .inr (5, [.ref s0, .ref de, .ref kl, .ref tl, .ref cu, .ref hk, .ref ca, .int 0, .int 0, .int (-1), .int 0, .int 0])), (kl, .inr (2, [.ref kx, .ref ky, .int 0])), (tl, .inr (4, [.ref tx, .ref ty, .int 1])), (s0, .inr (3, [.ref a0, .ref a1, .ref a2, .ref a3, .ref a4, .ref a5, .ref a6, .int 0, .ref a7, .ref a8, .ref a9, .ref a10, .ref a11, .int 0])), (ou, .inl (C 2, 1, .inr (.inl fo)))] s.heap := hP
  have hl := lv_entry ([.ref h0, .int p0, .ref ou]) (n := 4) (Nat.le_of_ble_eq_true rfl)
  rw [lg_entry_eq]
  generalize (lg_sl ([.ref h0, .int p0, .ref ou]) ++ List.replicate (4 - (lg_sl ([.ref h0, .int p0, .ref ou])).length) Slot.unset).toArray = ls at hl ⊢
  have hl : lv_has ls 4 [(0, .ref h0), (1, .int p0), (2, .ref ou)] := hl
  refine lv_aload_n hx hb dL_parent_0 rfl (lv_at hl 2 rfl) ?_
  refine lv_iconst (v := 0) hx hb dL_parent_1 (by decide) ?_
  refine lv_aload_n hx hb dL_parent_2 rfl (lv_at hl 0 rfl) ?_
  refine lv_iload_n hx hb dL_parent_3 rfl (lv_at hl 1 rfl) ?_
  have hPc := hP.sub (ws' := [(h0, .inr (5, [.ref s0, .ref de, .ref kl, .ref tl, .ref cu, .ref hk, .ref ca, .int 0, .int 0, .int (-1), .int 0, .int 0])), (kl, .inr (2, [.ref kx, .ref ky, .int 0])), (tl, .inr (4, [.ref tx, .ref ty, .int 1])), (s0, .inr (3, [.ref a0, .ref a1, .ref a2, .ref a3, .ref a4, .ref a5, .ref a6, .int 0, .ref a7, .ref a8, .ref a9, .ref a10, .ref a11, .int 0]))]) [0, 1, 2, 3] rfl
  have hDc := hD.sub (ws' := [(h0, .inr (5, [.ref s0, .ref de, .ref kl, .ref tl, .ref cu, .ref hk, .ref ca, .int 0, .int 0, .int (-1), .int 0, .int 0])), (kl, .inr (2, [.ref kx, .ref ky, .int 0])), (tl, .inr (4, [.ref tx, .ref ty, .int 1])), (s0, .inr (3, [.ref a0, .ref a1, .ref a2, .ref a3, .ref a4, .ref a5, .ref a6, .int 0, .ref a7, .ref a8, .ref a9, .ref a10, .ref a11, .int 0]))]) [0, 1, 2, 3] (by decide) rfl
  have hFc := va_free (wc := [(h0, .inr (5, [.ref s0, .ref de, .ref kl, .ref tl, .ref cu, .ref hk, .ref ca, .int 0, .int 0, .int (-1), .int 0, .int 0])), (kl, .inr (2, [.ref kx, .ref ky, .int 0])), (tl, .inr (4, [.ref tx, .ref ty, .int 1])), (s0, .inr (3, [.ref a0, .ref a1, .ref a2, .ref a3, .ref a4, .ref a5, .ref a6, .int 0, .ref a7, .ref a8, .ref a9, .ref a10, .ref a11, .int 0]))]) hD hS hA [0, 1, 2, 3] rfl
  refine vx_calli (vx_runV (As := [.int p0]) (rest := [.int 0, .ref ou]) ⟨hx, hb, hml, hown, ht⟩ (k5_parent l hl0 D C b0 s.heap.size h0 s0 de kl tl cu hk ca kx ky tx ty a0 a1 a2 a3 a4 a5 a6 a7 a8 a9 a10 a11 p0) (cwV 1 ht (xg_V m_530 m_531 m_532 m_281 m_190) rfl rfl rfl (by decide +kernel) ⟨Nat.le_of_ble_eq_true rfl, Nat.le_of_ble_eq_true rfl⟩) ⟨xPc_bl, va_recv hK hPc (ci := 5) (q0 := 0) rfl rfl, xPc_at hPc hK hDc hE hS hAb⟩ rfl rfl hl.1 rfl (lv_room (Nat.le_of_ble_eq_true rfl)) dL_parent_4 ⟨(by decide), (by decide)⟩) hS (fun q _ h => hFc q h) hFc (fun q _ h => hFc q h) (fun E ce q9 u9 t9 H9 locs9 e9 v9 p9 b9 z9 k9 hS9 hc9 hn9 hf9 => ?_) (fun r_1 u_2 t H1 locs ht1 hvm hw hB hz1 hk1 hS => ?_)
  · skip
    obtain rfl := b9
    obtain ⟨hP, hD⟩ := va_join (wr := [(ou, .inl (C 2, 1, .inr (.inl fo)))]) (w1 := []) hP hD [0, 1, 2, 3] [4] rfl rfl (by decide) (by decide) k9 hFc (fun k q h => by simp at h) ⟨fun i j p q h => by simp at h, fun k q h => by simp at h⟩
    have hP : va_P D vwCl [(ou, .inl (C 2, 1, .inr (.inl fo)))] H9 := hP
    have hD : va_D A [(ou, .inl (C 2, 1, .inr (.inl fo)))] := hD
    have hS := hS9
    refine x_catch hown ⟨0, 9, 12, 13⟩ [⟨0, 9, 15, 36⟩, ⟨0, 9, 18, 38⟩, ⟨0, 9, 21, 40⟩, ⟨0, 9, 24, 15⟩] (hsplit.trans rfl) (by decide) (by decide) (ht _ m_492) (hE.use (by decide +kernel)) hc9 hn9 hf9 ?_
    refine W.widen (k := 3) (n := 18) (by decide) (by decide) ?_
    refine lv_astore_n (lv' := [(3, .ref q9), (0, .ref h0), (1, .int p0), (2, .ref ou)]) hx hb dL_parent_12 rfl hl (by decide) rfl (fun ls hl => ?_)
    refine lv_iconst (v := 1) hx hb dL_parent_13 (by decide) ?_
    have hP9 := hP.sub (ws' := [(ou, .inl (C 2, 1, .inr (.inl fo)))]) [0] rfl
    have hD9 := hD.sub (ws' := [(ou, .inl (C 2, 1, .inr (.inl fo)))]) [0] (by decide) rfl
    refine W.widen (k := 3) (n := 18) (by decide) (by decide) ?_
    exact W.iret (v := 1) hx hb hr (fun t ht1 hW => ⟨⟨1, fo, rfl, by first | trivial | rfl | assumption | decide | (simp_all; done), by rw [ht1]; exact hP9, hD9⟩, hS.F ht1⟩) hS.2.2 dL_parent_14
  · exact hw.elim
set_option maxHeartbeats 4000000 in
set_option maxRecDepth 100000 in
theorem kL_setParent (l : Launch) (hl0 : l.stackTraces = false) (D : va_G) (C : Nat → ClassId) (b0 sz : Nat) (h0 : Nat) (s0 : Nat) (de : Nat) (kl : Nat) (tl : Nat) (cu : Nat) (hk : Nat) (ca : Nat) (kx : Nat) (ky : Nat) (tx : Nat) (ty : Nat) (a0 : Nat) (a1 : Nat) (a2 : Nat) (a3 : Nat) (a4 : Nat) (a5 : Nat) (a6 : Nat) (a7 : Nat) (a8 : Nat) (a9 : Nat) (a10 : Nat) (a11 : Nat) (p0 : Int32) (p1 : Int32) (ou : Nat) (fo : Nat → Int64) : Met l yL_setParent (xwh yL_setParent cL_setParent 5 (some .int) [(0, 17, 20, 13), (0, 17, 24, 36), (0, 17, 28, 38), (0, 17, 32, 40), (0, 17, 36, 15)]) ({ frames := 64, cells := 3, slots := 18, locals := 1200 }) (xPc D C b0 [.ref h0, .int p0, .int p1, .ref ou] [(h0, .inr (5, [.ref s0, .ref de, .ref kl, .ref tl, .ref cu, .ref hk, .ref ca, .int 0, .int 0, .int (-1), .int 0, .int 0])), (kl, .inr (2, [.ref kx, .ref ky, .int 0])), (tl, .inr (4, [.ref tx, .ref ty, .int 1])), (s0, .inr (3, [.ref a0, .ref a1, .ref a2, .ref a3, .ref a4, .ref a5, .ref a6, .int 0, .ref a7, .ref a8, .ref a9, .ref a10, .ref a11, .int 0])), (ou, .inl (C 2, 1, .inr (.inl fo)))] sz) (va_Qi (fun (r : Int32) (u : Nat → Int64) => r = 1) (xBw D (va_A [(h0, .inr (5, [.ref s0, .ref de, .ref kl, .ref tl, .ref cu, .ref hk, .ref ca, .int 0, .int 0, .int (-1), .int 0, .int 0])), (kl, .inr (2, [.ref kx, .ref ky, .int 0])), (tl, .inr (4, [.ref tx, .ref ty, .int 1])), (s0, .inr (3, [.ref a0, .ref a1, .ref a2, .ref a3, .ref a4, .ref a5, .ref a6, .int 0, .ref a7, .ref a8, .ref a9, .ref a10, .ref a11, .int 0])), (ou, .inl (C 2, 1, .inr (.inl fo)))] sz) (fun u => [(ou, .inl (C 2, 1, .inr (.inl (u))))])) (va_A [(h0, .inr (5, [.ref s0, .ref de, .ref kl, .ref tl, .ref cu, .ref hk, .ref ca, .int 0, .int 0, .int (-1), .int 0, .int 0])), (kl, .inr (2, [.ref kx, .ref ky, .int 0])), (tl, .inr (4, [.ref tx, .ref ty, .int 1])), (s0, .inr (3, [.ref a0, .ref a1, .ref a2, .ref a3, .ref a4, .ref a5, .ref a6, .int 0, .ref a7, .ref a8, .ref a9, .ref a10, .ref a11, .int 0])), (ou, .inl (C 2, 1, .inr (.inl fo)))] sz)) 3 18 (va_A [(h0, .inr (5, [.ref s0, .ref de, .ref kl, .ref tl, .ref cu, .ref hk, .ref ca, .int 0, .int 0, .int (-1), .int 0, .int 0])), (kl, .inr (2, [.ref kx, .ref ky, .int 0])), (tl, .inr (4, [.ref tx, .ref ty, .int 1])), (s0, .inr (3, [.ref a0, .ref a1, .ref a2, .ref a3, .ref a4, .ref a5, .ref a6, .int 0, .ref a7, .ref a8, .ref a9, .ref a10, .ref a11, .int 0])), (ou, .inl (C 2, 1, .inr (.inl fo)))] sz) := by
  refine va_MetW (cc := cL_setParent) (maxL := 5) (ret := (some .int)) (by decide) rfl ?_
  intro p e s m args below meth c s₁ B hml hv
  obtain ⟨rfl, hsz, hP, hK, hD0, hE⟩ := hv
  have hx := B.exec
  have hb := B.bytes
  have hr := B.returns
  have ht : ∀ w ∈ xb, w.before _ s = true := fun w h => atoms_spec (ws := xwh yL_setParent cL_setParent 5 (some .int) [(0, 17, 20, 13), (0, 17, 24, 36), (0, 17, 28, 38), (0, 17, 32, 40), (0, 17, 36, 15)]) B.pre w (List.mem_cons_of_mem _ h)
  have hown : s.vm.findClass RL = some m.cls := findClass_of_methodNamed B.named
  have hlocks := B.notSynchronized
  have hsplit := vx_table (x := yL_setParent) B (atoms_spec (ws := xwh yL_setParent cL_setParent 5 (some .int) [(0, 17, 20, 13), (0, 17, 24, 36), (0, 17, 28, 38), (0, 17, 32, 40), (0, 17, 36, 15)]) B.pre _ List.mem_cons_self)
  subst hsz
  have hAb := x_Ab hD0 hE.1
  have hD := hD0.self (sz := s.heap.size)
  generalize hAe : va_A [(h0, .inr (5, [.ref s0, .ref de, .ref kl, .ref tl, .ref cu, .ref hk, .ref ca, .int 0, .int 0, .int (-1), .int 0, .int 0])), (kl, .inr (2, [.ref kx, .ref ky, .int 0])), (tl, .inr (4, [.ref tx, .ref ty, .int 1])), (s0, .inr (3, [.ref a0, .ref a1, .ref a2, .ref a3, .ref a4, .ref a5, .ref a6, .int 0, .ref a7, .ref a8, .ref a9, .ref a10, .ref a11, .int 0])), (ou, .inl (C 2, 1, .inr (.inl fo)))] s.heap.size = A at hD hAb ⊢
  have hA : ∀ q : Nat, s.heap.size ≤ q → A q := fun q h => by rw [← hAe]; exact Or.inr h
  have hS : va_S A s.heap s.heap [] := va_S.rf
  have hP : va_P D vwCl [(h0, .inr (5, [.ref s0, .ref de, .ref kl, .ref tl, .ref cu, .ref hk, .ref ca, .int 0, .int 0, .int (-1), .int 0, .int 0])), (kl, .inr (2, [.ref kx, .ref ky, .int 0])), (tl, .inr (4, [.ref tx, .ref ty, .int 1])), (s0, .inr (3, [.ref a0, .ref a1, .ref a2, .ref a3, .ref a4, .ref a5, .ref a6, .int 0, .ref a7, .ref a8, .ref a9, .ref a10, .ref a11, .int 0])), (ou, .inl (C 2, 1, .inr (.inl fo)))] s.heap := hP
  have hl := lv_entry ([.ref h0, .int p0, .int p1, .ref ou]) (n := 5) (Nat.le_of_ble_eq_true rfl)
  rw [lg_entry_eq]
  generalize (lg_sl ([.ref h0, .int p0, .int p1, .ref ou]) ++ List.replicate (5 - (lg_sl ([.ref h0, .int p0, .int p1, .ref ou])).length) Slot.unset).toArray = ls at hl ⊢
  have hl : lv_has ls 5 [(0, .ref h0), (1, .int p0), (2, .int p1), (3, .ref ou)] := hl
  refine lv_aload_n hx hb dL_setParent_0 rfl (lv_at hl 3 rfl) ?_
  refine lv_iconst (v := 0) hx hb dL_setParent_1 (by decide) ?_
  refine lv_aload_n hx hb dL_setParent_2 rfl (lv_at hl 0 rfl) ?_
  refine lv_iload_n hx hb dL_setParent_3 rfl (lv_at hl 1 rfl) ?_
  refine lv_iload_n hx hb dL_setParent_4 rfl (lv_at hl 2 rfl) ?_
  have hPc := hP.sub (ws' := [(h0, .inr (5, [.ref s0, .ref de, .ref kl, .ref tl, .ref cu, .ref hk, .ref ca, .int 0, .int 0, .int (-1), .int 0, .int 0])), (kl, .inr (2, [.ref kx, .ref ky, .int 0])), (tl, .inr (4, [.ref tx, .ref ty, .int 1])), (s0, .inr (3, [.ref a0, .ref a1, .ref a2, .ref a3, .ref a4, .ref a5, .ref a6, .int 0, .ref a7, .ref a8, .ref a9, .ref a10, .ref a11, .int 0]))]) [0, 1, 2, 3] rfl
  have hDc := hD.sub (ws' := [(h0, .inr (5, [.ref s0, .ref de, .ref kl, .ref tl, .ref cu, .ref hk, .ref ca, .int 0, .int 0, .int (-1), .int 0, .int 0])), (kl, .inr (2, [.ref kx, .ref ky, .int 0])), (tl, .inr (4, [.ref tx, .ref ty, .int 1])), (s0, .inr (3, [.ref a0, .ref a1, .ref a2, .ref a3, .ref a4, .ref a5, .ref a6, .int 0, .ref a7, .ref a8, .ref a9, .ref a10, .ref a11, .int 0]))]) [0, 1, 2, 3] (by decide) rfl
  have hFc := va_free (wc := [(h0, .inr (5, [.ref s0, .ref de, .ref kl, .ref tl, .ref cu, .ref hk, .ref ca, .int 0, .int 0, .int (-1), .int 0, .int 0])), (kl, .inr (2, [.ref kx, .ref ky, .int 0])), (tl, .inr (4, [.ref tx, .ref ty, .int 1])), (s0, .inr (3, [.ref a0, .ref a1, .ref a2, .ref a3, .ref a4, .ref a5, .ref a6, .int 0, .ref a7, .ref a8, .ref a9, .ref a10, .ref a11, .int 0]))]) hD hS hA [0, 1, 2, 3] rfl
  refine vx_calli (vx_runV (As := [.int p0, .int p1]) (rest := [.int 0, .ref ou]) ⟨hx, hb, hml, hown, ht⟩ (k5_setParent l hl0 D C b0 s.heap.size h0 s0 de kl tl cu hk ca kx ky tx ty a0 a1 a2 a3 a4 a5 a6 a7 a8 a9 a10 a11 p0 p1) (cwV 2 ht (xg_V m_533 m_534 m_535 m_281 m_191) rfl rfl rfl (by decide +kernel) ⟨Nat.le_of_ble_eq_true rfl, Nat.le_of_ble_eq_true rfl⟩) ⟨xPc_bl, va_recv hK hPc (ci := 5) (q0 := 0) rfl rfl, xPc_at hPc hK hDc hE hS hAb⟩ rfl rfl hl.1 rfl (lv_room (Nat.le_of_ble_eq_true rfl)) dL_setParent_5 ⟨(by decide), (by decide)⟩) hS (fun q _ h => hFc q h) hFc (fun q _ h => hFc q h) (fun E ce q9 u9 t9 H9 locs9 e9 v9 p9 b9 z9 k9 hS9 hc9 hn9 hf9 => ?_) (fun r_1 u_2 t H1 locs ht1 hvm hw hB hz1 hk1 hS => ?_)
  · skip
    obtain rfl := b9
    obtain ⟨hP, hD⟩ := va_join (wr := [(ou, .inl (C 2, 1, .inr (.inl fo)))]) (w1 := []) hP hD [0, 1, 2, 3] [4] rfl rfl (by decide) (by decide) k9 hFc (fun k q h => by simp at h) ⟨fun i j p q h => by simp at h, fun k q h => by simp at h⟩
    have hP : va_P D vwCl [(ou, .inl (C 2, 1, .inr (.inl fo)))] H9 := hP
    have hD : va_D A [(ou, .inl (C 2, 1, .inr (.inl fo)))] := hD
    have hS := hS9
    refine x_catch hown ⟨0, 17, 20, 13⟩ [⟨0, 17, 24, 36⟩, ⟨0, 17, 28, 38⟩, ⟨0, 17, 32, 40⟩, ⟨0, 17, 36, 15⟩] (hsplit.trans rfl) (by decide) (by decide) (ht _ m_492) (hE.use (by decide +kernel)) hc9 hn9 hf9 ?_
    refine W.widen (k := 3) (n := 18) (by decide) (by decide) ?_
    refine lv_astore (lv' := [(4, .ref q9), (0, .ref h0), (1, .int p0), (2, .int p1), (3, .ref ou)]) hx hb dL_setParent_20 hl (by decide) rfl (fun ls hl => ?_)
    refine lv_iconst (v := 1) hx hb dL_setParent_22 (by decide) ?_
    have hP9 := hP.sub (ws' := [(ou, .inl (C 2, 1, .inr (.inl fo)))]) [0] rfl
    have hD9 := hD.sub (ws' := [(ou, .inl (C 2, 1, .inr (.inl fo)))]) [0] (by decide) rfl
    refine W.widen (k := 3) (n := 18) (by decide) (by decide) ?_
    exact W.iret (v := 1) hx hb hr (fun t ht1 hW => ⟨⟨1, fo, rfl, by first | trivial | rfl | assumption | decide | (simp_all; done), by rw [ht1]; exact hP9, hD9⟩, hS.F ht1⟩) hS.2.2 dL_setParent_23
  · exact hw.elim
set_option maxHeartbeats 4000000 in
set_option maxRecDepth 100000 in
theorem kL_open (l : Launch) (hl0 : l.stackTraces = false) (D : va_G) (C : Nat → ClassId) (b0 sz : Nat) (h0 : Nat) (s0 : Nat) (de : Nat) (kl : Nat) (tl : Nat) (cu : Nat) (hk : Nat) (ca : Nat) (kx : Nat) (ky : Nat) (tx : Nat) (ty : Nat) (a0 : Nat) (a1 : Nat) (a2 : Nat) (a3 : Nat) (a4 : Nat) (a5 : Nat) (a6 : Nat) (a7 : Nat) (a8 : Nat) (a9 : Nat) (a10 : Nat) (a11 : Nat) (p0 : Int32) (ou : Nat) (fo : Nat → Int64) : Met l yL_open (xwh yL_open cL_open 4 (some .int) [(0, 16, 19, 13), (0, 16, 22, 36), (0, 16, 25, 38), (0, 16, 28, 40), (0, 16, 31, 15)]) ({ frames := 64, cells := 3, slots := 18, locals := 1200 }) (xPc D C b0 [.ref h0, .int p0, .ref ou] [(h0, .inr (5, [.ref s0, .ref de, .ref kl, .ref tl, .ref cu, .ref hk, .ref ca, .int 0, .int 0, .int (-1), .int 0, .int 0])), (kl, .inr (2, [.ref kx, .ref ky, .int 0])), (tl, .inr (4, [.ref tx, .ref ty, .int 1])), (s0, .inr (3, [.ref a0, .ref a1, .ref a2, .ref a3, .ref a4, .ref a5, .ref a6, .int 0, .ref a7, .ref a8, .ref a9, .ref a10, .ref a11, .int 0])), (ou, .inl (C 2, 1, .inr (.inl fo)))] sz) (va_Qi (fun (r : Int32) (u : Nat → Int64) => r = 1) (xBw D (va_A [(h0, .inr (5, [.ref s0, .ref de, .ref kl, .ref tl, .ref cu, .ref hk, .ref ca, .int 0, .int 0, .int (-1), .int 0, .int 0])), (kl, .inr (2, [.ref kx, .ref ky, .int 0])), (tl, .inr (4, [.ref tx, .ref ty, .int 1])), (s0, .inr (3, [.ref a0, .ref a1, .ref a2, .ref a3, .ref a4, .ref a5, .ref a6, .int 0, .ref a7, .ref a8, .ref a9, .ref a10, .ref a11, .int 0])), (ou, .inl (C 2, 1, .inr (.inl fo)))] sz) (fun u => [(ou, .inl (C 2, 1, .inr (.inl (u))))])) (va_A [(h0, .inr (5, [.ref s0, .ref de, .ref kl, .ref tl, .ref cu, .ref hk, .ref ca, .int 0, .int 0, .int (-1), .int 0, .int 0])), (kl, .inr (2, [.ref kx, .ref ky, .int 0])), (tl, .inr (4, [.ref tx, .ref ty, .int 1])), (s0, .inr (3, [.ref a0, .ref a1, .ref a2, .ref a3, .ref a4, .ref a5, .ref a6, .int 0, .ref a7, .ref a8, .ref a9, .ref a10, .ref a11, .int 0])), (ou, .inl (C 2, 1, .inr (.inl fo)))] sz)) 3 18 (va_A [(h0, .inr (5, [.ref s0, .ref de, .ref kl, .ref tl, .ref cu, .ref hk, .ref ca, .int 0, .int 0, .int (-1), .int 0, .int 0])), (kl, .inr (2, [.ref kx, .ref ky, .int 0])), (tl, .inr (4, [.ref tx, .ref ty, .int 1])), (s0, .inr (3, [.ref a0, .ref a1, .ref a2, .ref a3, .ref a4, .ref a5, .ref a6, .int 0, .ref a7, .ref a8, .ref a9, .ref a10, .ref a11, .int 0])), (ou, .inl (C 2, 1, .inr (.inl fo)))] sz) := by
  refine va_MetW (cc := cL_open) (maxL := 4) (ret := (some .int)) (by decide) rfl ?_
  intro p e s m args below meth c s₁ B hml hv
  obtain ⟨rfl, hsz, hP, hK, hD0, hE⟩ := hv
  have hx := B.exec
  have hb := B.bytes
  have hr := B.returns
  have ht : ∀ w ∈ xb, w.before _ s = true := fun w h => atoms_spec (ws := xwh yL_open cL_open 4 (some .int) [(0, 16, 19, 13), (0, 16, 22, 36), (0, 16, 25, 38), (0, 16, 28, 40), (0, 16, 31, 15)]) B.pre w (List.mem_cons_of_mem _ h)
  have hown : s.vm.findClass RL = some m.cls := findClass_of_methodNamed B.named
  have hlocks := B.notSynchronized
  have hsplit := vx_table (x := yL_open) B (atoms_spec (ws := xwh yL_open cL_open 4 (some .int) [(0, 16, 19, 13), (0, 16, 22, 36), (0, 16, 25, 38), (0, 16, 28, 40), (0, 16, 31, 15)]) B.pre _ List.mem_cons_self)
  subst hsz
  have hAb := x_Ab hD0 hE.1
  have hD := hD0.self (sz := s.heap.size)
  generalize hAe : va_A [(h0, .inr (5, [.ref s0, .ref de, .ref kl, .ref tl, .ref cu, .ref hk, .ref ca, .int 0, .int 0, .int (-1), .int 0, .int 0])), (kl, .inr (2, [.ref kx, .ref ky, .int 0])), (tl, .inr (4, [.ref tx, .ref ty, .int 1])), (s0, .inr (3, [.ref a0, .ref a1, .ref a2, .ref a3, .ref a4, .ref a5, .ref a6, .int 0, .ref a7, .ref a8, .ref a9, .ref a10, .ref a11, .int 0])), (ou, .inl (C 2, 1, .inr (.inl fo)))] s.heap.size = A at hD hAb ⊢
  have hA : ∀ q : Nat, s.heap.size ≤ q → A q := fun q h => by rw [← hAe]; exact Or.inr h
  have hS : va_S A s.heap s.heap [] := va_S.rf
  have hP : va_P D vwCl [(h0, .inr (5, [.ref s0, .ref de, .ref kl, .ref tl, .ref cu, .ref hk, .ref ca, .int 0, .int 0, .int (-1), .int 0, .int 0])), (kl, .inr (2, [.ref kx, .ref ky, .int 0])), (tl, .inr (4, [.ref tx, .ref ty, .int 1])), (s0, .inr (3, [.ref a0, .ref a1, .ref a2, .ref a3, .ref a4, .ref a5, .ref a6, .int 0, .ref a7, .ref a8, .ref a9, .ref a10, .ref a11, .int 0])), (ou, .inl (C 2, 1, .inr (.inl fo)))] s.heap := hP
  have hl := lv_entry ([.ref h0, .int p0, .ref ou]) (n := 4) (Nat.le_of_ble_eq_true rfl)
  rw [lg_entry_eq]
  generalize (lg_sl ([.ref h0, .int p0, .ref ou]) ++ List.replicate (4 - (lg_sl ([.ref h0, .int p0, .ref ou])).length) Slot.unset).toArray = ls at hl ⊢
  have hl : lv_has ls 4 [(0, .ref h0), (1, .int p0), (2, .ref ou)] := hl
  refine lv_aload_n hx hb dL_open_0 rfl (lv_at hl 2 rfl) ?_
  refine lv_iconst (v := 0) hx hb dL_open_1 (by decide) ?_
  refine lv_aload_n hx hb dL_open_2 rfl (lv_at hl 0 rfl) ?_
  refine lv_iload_n hx hb dL_open_3 rfl (lv_at hl 1 rfl) ?_
  have hPc := hP.sub (ws' := [(h0, .inr (5, [.ref s0, .ref de, .ref kl, .ref tl, .ref cu, .ref hk, .ref ca, .int 0, .int 0, .int (-1), .int 0, .int 0])), (kl, .inr (2, [.ref kx, .ref ky, .int 0])), (tl, .inr (4, [.ref tx, .ref ty, .int 1])), (s0, .inr (3, [.ref a0, .ref a1, .ref a2, .ref a3, .ref a4, .ref a5, .ref a6, .int 0, .ref a7, .ref a8, .ref a9, .ref a10, .ref a11, .int 0]))]) [0, 1, 2, 3] rfl
  have hDc := hD.sub (ws' := [(h0, .inr (5, [.ref s0, .ref de, .ref kl, .ref tl, .ref cu, .ref hk, .ref ca, .int 0, .int 0, .int (-1), .int 0, .int 0])), (kl, .inr (2, [.ref kx, .ref ky, .int 0])), (tl, .inr (4, [.ref tx, .ref ty, .int 1])), (s0, .inr (3, [.ref a0, .ref a1, .ref a2, .ref a3, .ref a4, .ref a5, .ref a6, .int 0, .ref a7, .ref a8, .ref a9, .ref a10, .ref a11, .int 0]))]) [0, 1, 2, 3] (by decide) rfl
  have hFc := va_free (wc := [(h0, .inr (5, [.ref s0, .ref de, .ref kl, .ref tl, .ref cu, .ref hk, .ref ca, .int 0, .int 0, .int (-1), .int 0, .int 0])), (kl, .inr (2, [.ref kx, .ref ky, .int 0])), (tl, .inr (4, [.ref tx, .ref ty, .int 1])), (s0, .inr (3, [.ref a0, .ref a1, .ref a2, .ref a3, .ref a4, .ref a5, .ref a6, .int 0, .ref a7, .ref a8, .ref a9, .ref a10, .ref a11, .int 0]))]) hD hS hA [0, 1, 2, 3] rfl
  refine vx_calli (vx_runV (As := [.int p0]) (rest := [.int 0, .ref ou]) ⟨hx, hb, hml, hown, ht⟩ (k5_open l hl0 D C b0 s.heap.size h0 s0 de kl tl cu hk ca kx ky tx ty a0 a1 a2 a3 a4 a5 a6 a7 a8 a9 a10 a11 p0) (cwV 1 ht (xg_V m_536 m_537 m_538 m_281 m_192) rfl rfl rfl (by decide +kernel) ⟨Nat.le_of_ble_eq_true rfl, Nat.le_of_ble_eq_true rfl⟩) ⟨xPc_bl, va_recv hK hPc (ci := 5) (q0 := 0) rfl rfl, xPc_at hPc hK hDc hE hS hAb⟩ rfl rfl hl.1 rfl (lv_room (Nat.le_of_ble_eq_true rfl)) dL_open_4 ⟨(by decide), (by decide)⟩) hS (fun q _ h => hFc q h) hFc (fun q _ h => hFc q h) (fun E ce q9 u9 t9 H9 locs9 e9 v9 p9 b9 z9 k9 hS9 hc9 hn9 hf9 => ?_) (fun r_1 u_2 t H1 locs ht1 hvm hw hB hz1 hk1 hS => ?_)
  · skip
    obtain rfl := b9
    obtain ⟨hP, hD⟩ := va_join (wr := [(ou, .inl (C 2, 1, .inr (.inl fo)))]) (w1 := []) hP hD [0, 1, 2, 3] [4] rfl rfl (by decide) (by decide) k9 hFc (fun k q h => by simp at h) ⟨fun i j p q h => by simp at h, fun k q h => by simp at h⟩
    have hP : va_P D vwCl [(ou, .inl (C 2, 1, .inr (.inl fo)))] H9 := hP
    have hD : va_D A [(ou, .inl (C 2, 1, .inr (.inl fo)))] := hD
    have hS := hS9
    refine x_catch hown ⟨0, 16, 19, 13⟩ [⟨0, 16, 22, 36⟩, ⟨0, 16, 25, 38⟩, ⟨0, 16, 28, 40⟩, ⟨0, 16, 31, 15⟩] (hsplit.trans rfl) (by decide) (by decide) (ht _ m_492) (hE.use (by decide +kernel)) hc9 hn9 hf9 ?_
    refine W.widen (k := 3) (n := 18) (by decide) (by decide) ?_
    refine lv_astore_n (lv' := [(3, .ref q9), (0, .ref h0), (1, .int p0), (2, .ref ou)]) hx hb dL_open_19 rfl hl (by decide) rfl (fun ls hl => ?_)
    refine lv_iconst (v := 1) hx hb dL_open_20 (by decide) ?_
    have hP9 := hP.sub (ws' := [(ou, .inl (C 2, 1, .inr (.inl fo)))]) [0] rfl
    have hD9 := hD.sub (ws' := [(ou, .inl (C 2, 1, .inr (.inl fo)))]) [0] (by decide) rfl
    refine W.widen (k := 3) (n := 18) (by decide) (by decide) ?_
    exact W.iret (v := 1) hx hb hr (fun t ht1 hW => ⟨⟨1, fo, rfl, by first | trivial | rfl | assumption | decide | (simp_all; done), by rw [ht1]; exact hP9, hD9⟩, hS.F ht1⟩) hS.2.2 dL_open_21
  · exact hw.elim
set_option maxHeartbeats 4000000 in
set_option maxRecDepth 100000 in
theorem kL_shut (l : Launch) (hl0 : l.stackTraces = false) (D : va_G) (C : Nat → ClassId) (b0 sz : Nat) (h0 : Nat) (s0 : Nat) (de : Nat) (kl : Nat) (tl : Nat) (cu : Nat) (hk : Nat) (ca : Nat) (kx : Nat) (ky : Nat) (tx : Nat) (ty : Nat) (a0 : Nat) (a1 : Nat) (a2 : Nat) (a3 : Nat) (a4 : Nat) (a5 : Nat) (a6 : Nat) (a7 : Nat) (a8 : Nat) (a9 : Nat) (a10 : Nat) (a11 : Nat) (p0 : Int32) (ou : Nat) (fo : Nat → Int64) : Met l yL_shut (xwh yL_shut cL_shut 4 (some .int) [(0, 16, 19, 13), (0, 16, 22, 36), (0, 16, 25, 38), (0, 16, 28, 40), (0, 16, 31, 15)]) ({ frames := 64, cells := 3, slots := 18, locals := 1200 }) (xPc D C b0 [.ref h0, .int p0, .ref ou] [(h0, .inr (5, [.ref s0, .ref de, .ref kl, .ref tl, .ref cu, .ref hk, .ref ca, .int 0, .int 0, .int (-1), .int 0, .int 0])), (kl, .inr (2, [.ref kx, .ref ky, .int 0])), (tl, .inr (4, [.ref tx, .ref ty, .int 1])), (s0, .inr (3, [.ref a0, .ref a1, .ref a2, .ref a3, .ref a4, .ref a5, .ref a6, .int 0, .ref a7, .ref a8, .ref a9, .ref a10, .ref a11, .int 0])), (ou, .inl (C 2, 1, .inr (.inl fo)))] sz) (va_Qi (fun (r : Int32) (u : Nat → Int64) => r = 1) (xBw D (va_A [(h0, .inr (5, [.ref s0, .ref de, .ref kl, .ref tl, .ref cu, .ref hk, .ref ca, .int 0, .int 0, .int (-1), .int 0, .int 0])), (kl, .inr (2, [.ref kx, .ref ky, .int 0])), (tl, .inr (4, [.ref tx, .ref ty, .int 1])), (s0, .inr (3, [.ref a0, .ref a1, .ref a2, .ref a3, .ref a4, .ref a5, .ref a6, .int 0, .ref a7, .ref a8, .ref a9, .ref a10, .ref a11, .int 0])), (ou, .inl (C 2, 1, .inr (.inl fo)))] sz) (fun u => [(ou, .inl (C 2, 1, .inr (.inl (u))))])) (va_A [(h0, .inr (5, [.ref s0, .ref de, .ref kl, .ref tl, .ref cu, .ref hk, .ref ca, .int 0, .int 0, .int (-1), .int 0, .int 0])), (kl, .inr (2, [.ref kx, .ref ky, .int 0])), (tl, .inr (4, [.ref tx, .ref ty, .int 1])), (s0, .inr (3, [.ref a0, .ref a1, .ref a2, .ref a3, .ref a4, .ref a5, .ref a6, .int 0, .ref a7, .ref a8, .ref a9, .ref a10, .ref a11, .int 0])), (ou, .inl (C 2, 1, .inr (.inl fo)))] sz)) 3 18 (va_A [(h0, .inr (5, [.ref s0, .ref de, .ref kl, .ref tl, .ref cu, .ref hk, .ref ca, .int 0, .int 0, .int (-1), .int 0, .int 0])), (kl, .inr (2, [.ref kx, .ref ky, .int 0])), (tl, .inr (4, [.ref tx, .ref ty, .int 1])), (s0, .inr (3, [.ref a0, .ref a1, .ref a2, .ref a3, .ref a4, .ref a5, .ref a6, .int 0, .ref a7, .ref a8, .ref a9, .ref a10, .ref a11, .int 0])), (ou, .inl (C 2, 1, .inr (.inl fo)))] sz) := by
  refine va_MetW (cc := cL_shut) (maxL := 4) (ret := (some .int)) (by decide) rfl ?_
  intro p e s m args below meth c s₁ B hml hv
  obtain ⟨rfl, hsz, hP, hK, hD0, hE⟩ := hv
  have hx := B.exec
  have hb := B.bytes
  have hr := B.returns
  have ht : ∀ w ∈ xb, w.before _ s = true := fun w h => atoms_spec (ws := xwh yL_shut cL_shut 4 (some .int) [(0, 16, 19, 13), (0, 16, 22, 36), (0, 16, 25, 38), (0, 16, 28, 40), (0, 16, 31, 15)]) B.pre w (List.mem_cons_of_mem _ h)
  have hown : s.vm.findClass RL = some m.cls := findClass_of_methodNamed B.named
  have hlocks := B.notSynchronized
  have hsplit := vx_table (x := yL_shut) B (atoms_spec (ws := xwh yL_shut cL_shut 4 (some .int) [(0, 16, 19, 13), (0, 16, 22, 36), (0, 16, 25, 38), (0, 16, 28, 40), (0, 16, 31, 15)]) B.pre _ List.mem_cons_self)
  subst hsz
  have hAb := x_Ab hD0 hE.1
  have hD := hD0.self (sz := s.heap.size)
  generalize hAe : va_A [(h0, .inr (5, [.ref s0, .ref de, .ref kl, .ref tl, .ref cu, .ref hk, .ref ca, .int 0, .int 0, .int (-1), .int 0, .int 0])), (kl, .inr (2, [.ref kx, .ref ky, .int 0])), (tl, .inr (4, [.ref tx, .ref ty, .int 1])), (s0, .inr (3, [.ref a0, .ref a1, .ref a2, .ref a3, .ref a4, .ref a5, .ref a6, .int 0, .ref a7, .ref a8, .ref a9, .ref a10, .ref a11, .int 0])), (ou, .inl (C 2, 1, .inr (.inl fo)))] s.heap.size = A at hD hAb ⊢
  have hA : ∀ q : Nat, s.heap.size ≤ q → A q := fun q h => by rw [← hAe]; exact Or.inr h
  have hS : va_S A s.heap s.heap [] := va_S.rf
  have hP : va_P D vwCl [(h0, .inr (5, [.ref s0, .ref de, .ref kl, .ref tl, .ref cu, .ref hk, .ref ca, .int 0, .int 0, .int (-1), .int 0, .int 0])), (kl, .inr (2, [.ref kx, .ref ky, .int 0])), (tl, .inr (4, [.ref tx, .ref ty, .int 1])), (s0, .inr (3, [.ref a0, .ref a1, .ref a2, .ref a3, .ref a4, .ref a5, .ref a6, .int 0, .ref a7, .ref a8, .ref a9, .ref a10, .ref a11, .int 0])), (ou, .inl (C 2, 1, .inr (.inl fo)))] s.heap := hP
  have hl := lv_entry ([.ref h0, .int p0, .ref ou]) (n := 4) (Nat.le_of_ble_eq_true rfl)
  rw [lg_entry_eq]
  generalize (lg_sl ([.ref h0, .int p0, .ref ou]) ++ List.replicate (4 - (lg_sl ([.ref h0, .int p0, .ref ou])).length) Slot.unset).toArray = ls at hl ⊢
  have hl : lv_has ls 4 [(0, .ref h0), (1, .int p0), (2, .ref ou)] := hl
  refine lv_aload_n hx hb dL_shut_0 rfl (lv_at hl 2 rfl) ?_
  refine lv_iconst (v := 0) hx hb dL_shut_1 (by decide) ?_
  refine lv_aload_n hx hb dL_shut_2 rfl (lv_at hl 0 rfl) ?_
  refine lv_iload_n hx hb dL_shut_3 rfl (lv_at hl 1 rfl) ?_
  have hPc := hP.sub (ws' := [(h0, .inr (5, [.ref s0, .ref de, .ref kl, .ref tl, .ref cu, .ref hk, .ref ca, .int 0, .int 0, .int (-1), .int 0, .int 0])), (kl, .inr (2, [.ref kx, .ref ky, .int 0])), (tl, .inr (4, [.ref tx, .ref ty, .int 1])), (s0, .inr (3, [.ref a0, .ref a1, .ref a2, .ref a3, .ref a4, .ref a5, .ref a6, .int 0, .ref a7, .ref a8, .ref a9, .ref a10, .ref a11, .int 0]))]) [0, 1, 2, 3] rfl
  have hDc := hD.sub (ws' := [(h0, .inr (5, [.ref s0, .ref de, .ref kl, .ref tl, .ref cu, .ref hk, .ref ca, .int 0, .int 0, .int (-1), .int 0, .int 0])), (kl, .inr (2, [.ref kx, .ref ky, .int 0])), (tl, .inr (4, [.ref tx, .ref ty, .int 1])), (s0, .inr (3, [.ref a0, .ref a1, .ref a2, .ref a3, .ref a4, .ref a5, .ref a6, .int 0, .ref a7, .ref a8, .ref a9, .ref a10, .ref a11, .int 0]))]) [0, 1, 2, 3] (by decide) rfl
  have hFc := va_free (wc := [(h0, .inr (5, [.ref s0, .ref de, .ref kl, .ref tl, .ref cu, .ref hk, .ref ca, .int 0, .int 0, .int (-1), .int 0, .int 0])), (kl, .inr (2, [.ref kx, .ref ky, .int 0])), (tl, .inr (4, [.ref tx, .ref ty, .int 1])), (s0, .inr (3, [.ref a0, .ref a1, .ref a2, .ref a3, .ref a4, .ref a5, .ref a6, .int 0, .ref a7, .ref a8, .ref a9, .ref a10, .ref a11, .int 0]))]) hD hS hA [0, 1, 2, 3] rfl
  refine vx_calli (vx_runV (As := [.int p0]) (rest := [.int 0, .ref ou]) ⟨hx, hb, hml, hown, ht⟩ (k5_shut l hl0 D C b0 s.heap.size h0 s0 de kl tl cu hk ca kx ky tx ty a0 a1 a2 a3 a4 a5 a6 a7 a8 a9 a10 a11 p0) (cwV 1 ht (xg_V m_539 m_540 m_541 m_281 m_193) rfl rfl rfl (by decide +kernel) ⟨Nat.le_of_ble_eq_true rfl, Nat.le_of_ble_eq_true rfl⟩) ⟨xPc_bl, va_recv hK hPc (ci := 5) (q0 := 0) rfl rfl, xPc_at hPc hK hDc hE hS hAb⟩ rfl rfl hl.1 rfl (lv_room (Nat.le_of_ble_eq_true rfl)) dL_shut_4 ⟨(by decide), (by decide)⟩) hS (fun q _ h => hFc q h) hFc (fun q _ h => hFc q h) (fun E ce q9 u9 t9 H9 locs9 e9 v9 p9 b9 z9 k9 hS9 hc9 hn9 hf9 => ?_) (fun r_1 u_2 t H1 locs ht1 hvm hw hB hz1 hk1 hS => ?_)
  · skip
    obtain rfl := b9
    obtain ⟨hP, hD⟩ := va_join (wr := [(ou, .inl (C 2, 1, .inr (.inl fo)))]) (w1 := []) hP hD [0, 1, 2, 3] [4] rfl rfl (by decide) (by decide) k9 hFc (fun k q h => by simp at h) ⟨fun i j p q h => by simp at h, fun k q h => by simp at h⟩
    have hP : va_P D vwCl [(ou, .inl (C 2, 1, .inr (.inl fo)))] H9 := hP
    have hD : va_D A [(ou, .inl (C 2, 1, .inr (.inl fo)))] := hD
    have hS := hS9
    refine x_catch hown ⟨0, 16, 19, 13⟩ [⟨0, 16, 22, 36⟩, ⟨0, 16, 25, 38⟩, ⟨0, 16, 28, 40⟩, ⟨0, 16, 31, 15⟩] (hsplit.trans rfl) (by decide) (by decide) (ht _ m_492) (hE.use (by decide +kernel)) hc9 hn9 hf9 ?_
    refine W.widen (k := 3) (n := 18) (by decide) (by decide) ?_
    refine lv_astore_n (lv' := [(3, .ref q9), (0, .ref h0), (1, .int p0), (2, .ref ou)]) hx hb dL_shut_19 rfl hl (by decide) rfl (fun ls hl => ?_)
    refine lv_iconst (v := 1) hx hb dL_shut_20 (by decide) ?_
    have hP9 := hP.sub (ws' := [(ou, .inl (C 2, 1, .inr (.inl fo)))]) [0] rfl
    have hD9 := hD.sub (ws' := [(ou, .inl (C 2, 1, .inr (.inl fo)))]) [0] (by decide) rfl
    refine W.widen (k := 3) (n := 18) (by decide) (by decide) ?_
    exact W.iret (v := 1) hx hb hr (fun t ht1 hW => ⟨⟨1, fo, rfl, by first | trivial | rfl | assumption | decide | (simp_all; done), by rw [ht1]; exact hP9, hD9⟩, hS.F ht1⟩) hS.2.2 dL_shut_21
  · exact hw.elim
set_option maxHeartbeats 4000000 in
set_option maxRecDepth 100000 in
theorem kL_level (l : Launch) (hl0 : l.stackTraces = false) (D : va_G) (C : Nat → ClassId) (b0 sz : Nat) (h0 : Nat) (s0 : Nat) (de : Nat) (kl : Nat) (tl : Nat) (cu : Nat) (hk : Nat) (ca : Nat) (kx : Nat) (ky : Nat) (tx : Nat) (ty : Nat) (a0 : Nat) (a1 : Nat) (a2 : Nat) (a3 : Nat) (a4 : Nat) (a5 : Nat) (a6 : Nat) (a7 : Nat) (a8 : Nat) (a9 : Nat) (a10 : Nat) (a11 : Nat) (p0 : Int32) (p1 : Int32) (p2 : Int32) (ou : Nat) (fo : Nat → Int64) : Met l yL_level (xwh yL_level cL_level 6 (some .int) [(0, 19, 22, 13), (0, 19, 26, 36), (0, 19, 30, 38), (0, 19, 34, 40), (0, 19, 38, 15)]) ({ frames := 64, cells := 3, slots := 18, locals := 1200 }) (xPc D C b0 [.ref h0, .int p0, .int p1, .int p2, .ref ou] [(h0, .inr (5, [.ref s0, .ref de, .ref kl, .ref tl, .ref cu, .ref hk, .ref ca, .int 0, .int 0, .int (-1), .int 0, .int 0])), (kl, .inr (2, [.ref kx, .ref ky, .int 0])), (tl, .inr (4, [.ref tx, .ref ty, .int 1])), (s0, .inr (3, [.ref a0, .ref a1, .ref a2, .ref a3, .ref a4, .ref a5, .ref a6, .int 0, .ref a7, .ref a8, .ref a9, .ref a10, .ref a11, .int 0])), (ou, .inl (C 2, 1, .inr (.inl fo)))] sz) (va_Qi (fun (r : Int32) (u : Nat → Int64) => r = 1) (xBw D (va_A [(h0, .inr (5, [.ref s0, .ref de, .ref kl, .ref tl, .ref cu, .ref hk, .ref ca, .int 0, .int 0, .int (-1), .int 0, .int 0])), (kl, .inr (2, [.ref kx, .ref ky, .int 0])), (tl, .inr (4, [.ref tx, .ref ty, .int 1])), (s0, .inr (3, [.ref a0, .ref a1, .ref a2, .ref a3, .ref a4, .ref a5, .ref a6, .int 0, .ref a7, .ref a8, .ref a9, .ref a10, .ref a11, .int 0])), (ou, .inl (C 2, 1, .inr (.inl fo)))] sz) (fun u => [(ou, .inl (C 2, 1, .inr (.inl (u))))])) (va_A [(h0, .inr (5, [.ref s0, .ref de, .ref kl, .ref tl, .ref cu, .ref hk, .ref ca, .int 0, .int 0, .int (-1), .int 0, .int 0])), (kl, .inr (2, [.ref kx, .ref ky, .int 0])), (tl, .inr (4, [.ref tx, .ref ty, .int 1])), (s0, .inr (3, [.ref a0, .ref a1, .ref a2, .ref a3, .ref a4, .ref a5, .ref a6, .int 0, .ref a7, .ref a8, .ref a9, .ref a10, .ref a11, .int 0])), (ou, .inl (C 2, 1, .inr (.inl fo)))] sz)) 3 18 (va_A [(h0, .inr (5, [.ref s0, .ref de, .ref kl, .ref tl, .ref cu, .ref hk, .ref ca, .int 0, .int 0, .int (-1), .int 0, .int 0])), (kl, .inr (2, [.ref kx, .ref ky, .int 0])), (tl, .inr (4, [.ref tx, .ref ty, .int 1])), (s0, .inr (3, [.ref a0, .ref a1, .ref a2, .ref a3, .ref a4, .ref a5, .ref a6, .int 0, .ref a7, .ref a8, .ref a9, .ref a10, .ref a11, .int 0])), (ou, .inl (C 2, 1, .inr (.inl fo)))] sz) := by
  refine va_MetW (cc := cL_level) (maxL := 6) (ret := (some .int)) (by decide) rfl ?_
  intro p e s m args below meth c s₁ B hml hv
  obtain ⟨rfl, hsz, hP, hK, hD0, hE⟩ := hv
  have hx := B.exec
  have hb := B.bytes
  have hr := B.returns
  have ht : ∀ w ∈ xb, w.before _ s = true := fun w h => atoms_spec (ws := xwh yL_level cL_level 6 (some .int) [(0, 19, 22, 13), (0, 19, 26, 36), (0, 19, 30, 38), (0, 19, 34, 40), (0, 19, 38, 15)]) B.pre w (List.mem_cons_of_mem _ h)
  have hown : s.vm.findClass RL = some m.cls := findClass_of_methodNamed B.named
  have hlocks := B.notSynchronized
  have hsplit := vx_table (x := yL_level) B (atoms_spec (ws := xwh yL_level cL_level 6 (some .int) [(0, 19, 22, 13), (0, 19, 26, 36), (0, 19, 30, 38), (0, 19, 34, 40), (0, 19, 38, 15)]) B.pre _ List.mem_cons_self)
  subst hsz
  have hAb := x_Ab hD0 hE.1
  have hD := hD0.self (sz := s.heap.size)
  generalize hAe : va_A [(h0, .inr (5, [.ref s0, .ref de, .ref kl, .ref tl, .ref cu, .ref hk, .ref ca, .int 0, .int 0, .int (-1), .int 0, .int 0])), (kl, .inr (2, [.ref kx, .ref ky, .int 0])), (tl, .inr (4, [.ref tx, .ref ty, .int 1])), (s0, .inr (3, [.ref a0, .ref a1, .ref a2, .ref a3, .ref a4, .ref a5, .ref a6, .int 0, .ref a7, .ref a8, .ref a9, .ref a10, .ref a11, .int 0])), (ou, .inl (C 2, 1, .inr (.inl fo)))] s.heap.size = A at hD hAb ⊢
  have hA : ∀ q : Nat, s.heap.size ≤ q → A q := fun q h => by rw [← hAe]; exact Or.inr h
  have hS : va_S A s.heap s.heap [] := va_S.rf
  have hP : va_P D vwCl [(h0, .inr (5, [.ref s0, .ref de, .ref kl, .ref tl, .ref cu, .ref hk, .ref ca, .int 0, .int 0, .int (-1), .int 0, .int 0])), (kl, .inr (2, [.ref kx, .ref ky, .int 0])), (tl, .inr (4, [.ref tx, .ref ty, .int 1])), (s0, .inr (3, [.ref a0, .ref a1, .ref a2, .ref a3, .ref a4, .ref a5, .ref a6, .int 0, .ref a7, .ref a8, .ref a9, .ref a10, .ref a11, .int 0])), (ou, .inl (C 2, 1, .inr (.inl fo)))] s.heap := hP
  have hl := lv_entry ([.ref h0, .int p0, .int p1, .int p2, .ref ou]) (n := 6) (Nat.le_of_ble_eq_true rfl)
  rw [lg_entry_eq]
  generalize (lg_sl ([.ref h0, .int p0, .int p1, .int p2, .ref ou]) ++ List.replicate (6 - (lg_sl ([.ref h0, .int p0, .int p1, .int p2, .ref ou])).length) Slot.unset).toArray = ls at hl ⊢
  have hl : lv_has ls 6 [(0, .ref h0), (1, .int p0), (2, .int p1), (3, .int p2), (4, .ref ou)] := hl
  refine lv_aload hx hb dL_level_0 (lv_at hl 4 rfl) ?_
  refine lv_iconst (v := 0) hx hb dL_level_2 (by decide) ?_
  refine lv_aload_n hx hb dL_level_3 rfl (lv_at hl 0 rfl) ?_
  refine lv_iload_n hx hb dL_level_4 rfl (lv_at hl 1 rfl) ?_
  refine lv_iload_n hx hb dL_level_5 rfl (lv_at hl 2 rfl) ?_
  refine lv_iload_n hx hb dL_level_6 rfl (lv_at hl 3 rfl) ?_
  have hPc := hP.sub (ws' := [(h0, .inr (5, [.ref s0, .ref de, .ref kl, .ref tl, .ref cu, .ref hk, .ref ca, .int 0, .int 0, .int (-1), .int 0, .int 0])), (kl, .inr (2, [.ref kx, .ref ky, .int 0])), (tl, .inr (4, [.ref tx, .ref ty, .int 1])), (s0, .inr (3, [.ref a0, .ref a1, .ref a2, .ref a3, .ref a4, .ref a5, .ref a6, .int 0, .ref a7, .ref a8, .ref a9, .ref a10, .ref a11, .int 0]))]) [0, 1, 2, 3] rfl
  have hDc := hD.sub (ws' := [(h0, .inr (5, [.ref s0, .ref de, .ref kl, .ref tl, .ref cu, .ref hk, .ref ca, .int 0, .int 0, .int (-1), .int 0, .int 0])), (kl, .inr (2, [.ref kx, .ref ky, .int 0])), (tl, .inr (4, [.ref tx, .ref ty, .int 1])), (s0, .inr (3, [.ref a0, .ref a1, .ref a2, .ref a3, .ref a4, .ref a5, .ref a6, .int 0, .ref a7, .ref a8, .ref a9, .ref a10, .ref a11, .int 0]))]) [0, 1, 2, 3] (by decide) rfl
  have hFc := va_free (wc := [(h0, .inr (5, [.ref s0, .ref de, .ref kl, .ref tl, .ref cu, .ref hk, .ref ca, .int 0, .int 0, .int (-1), .int 0, .int 0])), (kl, .inr (2, [.ref kx, .ref ky, .int 0])), (tl, .inr (4, [.ref tx, .ref ty, .int 1])), (s0, .inr (3, [.ref a0, .ref a1, .ref a2, .ref a3, .ref a4, .ref a5, .ref a6, .int 0, .ref a7, .ref a8, .ref a9, .ref a10, .ref a11, .int 0]))]) hD hS hA [0, 1, 2, 3] rfl
  refine vx_calli (vx_runV (As := [.int p0, .int p1, .int p2]) (rest := [.int 0, .ref ou]) ⟨hx, hb, hml, hown, ht⟩ (k5_level l hl0 D C b0 s.heap.size h0 s0 de kl tl cu hk ca kx ky tx ty a0 a1 a2 a3 a4 a5 a6 a7 a8 a9 a10 a11 p0 p1 p2) (cwV 3 ht (xg_V m_542 m_543 m_544 m_281 m_194) rfl rfl rfl (by decide +kernel) ⟨Nat.le_of_ble_eq_true rfl, Nat.le_of_ble_eq_true rfl⟩) ⟨xPc_bl, va_recv hK hPc (ci := 5) (q0 := 0) rfl rfl, xPc_at hPc hK hDc hE hS hAb⟩ rfl rfl hl.1 rfl (lv_room (Nat.le_of_ble_eq_true rfl)) dL_level_7 ⟨(by decide), (by decide)⟩) hS (fun q _ h => hFc q h) hFc (fun q _ h => hFc q h) (fun E ce q9 u9 t9 H9 locs9 e9 v9 p9 b9 z9 k9 hS9 hc9 hn9 hf9 => ?_) (fun r_1 u_2 t H1 locs ht1 hvm hw hB hz1 hk1 hS => ?_)
  · skip
    obtain rfl := b9
    obtain ⟨hP, hD⟩ := va_join (wr := [(ou, .inl (C 2, 1, .inr (.inl fo)))]) (w1 := []) hP hD [0, 1, 2, 3] [4] rfl rfl (by decide) (by decide) k9 hFc (fun k q h => by simp at h) ⟨fun i j p q h => by simp at h, fun k q h => by simp at h⟩
    have hP : va_P D vwCl [(ou, .inl (C 2, 1, .inr (.inl fo)))] H9 := hP
    have hD : va_D A [(ou, .inl (C 2, 1, .inr (.inl fo)))] := hD
    have hS := hS9
    refine x_catch hown ⟨0, 19, 22, 13⟩ [⟨0, 19, 26, 36⟩, ⟨0, 19, 30, 38⟩, ⟨0, 19, 34, 40⟩, ⟨0, 19, 38, 15⟩] (hsplit.trans rfl) (by decide) (by decide) (ht _ m_492) (hE.use (by decide +kernel)) hc9 hn9 hf9 ?_
    refine W.widen (k := 3) (n := 18) (by decide) (by decide) ?_
    refine lv_astore (lv' := [(5, .ref q9), (0, .ref h0), (1, .int p0), (2, .int p1), (3, .int p2), (4, .ref ou)]) hx hb dL_level_22 hl (by decide) rfl (fun ls hl => ?_)
    refine lv_iconst (v := 1) hx hb dL_level_24 (by decide) ?_
    have hP9 := hP.sub (ws' := [(ou, .inl (C 2, 1, .inr (.inl fo)))]) [0] rfl
    have hD9 := hD.sub (ws' := [(ou, .inl (C 2, 1, .inr (.inl fo)))]) [0] (by decide) rfl
    refine W.widen (k := 3) (n := 18) (by decide) (by decide) ?_
    exact W.iret (v := 1) hx hb hr (fun t ht1 hW => ⟨⟨1, fo, rfl, by first | trivial | rfl | assumption | decide | (simp_all; done), by rw [ht1]; exact hP9, hD9⟩, hS.F ht1⟩) hS.2.2 dL_level_25
  · exact hw.elim
set_option maxHeartbeats 4000000 in
set_option maxRecDepth 100000 in
theorem kL_assign (l : Launch) (hl0 : l.stackTraces = false) (D : va_G) (C : Nat → ClassId) (b0 sz : Nat) (h0 : Nat) (s0 : Nat) (de : Nat) (kl : Nat) (tl : Nat) (cu : Nat) (hk : Nat) (ca : Nat) (kx : Nat) (ky : Nat) (tx : Nat) (ty : Nat) (a0 : Nat) (a1 : Nat) (a2 : Nat) (a3 : Nat) (a4 : Nat) (a5 : Nat) (a6 : Nat) (a7 : Nat) (a8 : Nat) (a9 : Nat) (a10 : Nat) (a11 : Nat) (p0 : Int32) (p1 : Int32) (ou : Nat) (fo : Nat → Int64) : Met l yL_assign (xwh yL_assign cL_assign 5 (some .int) [(0, 10, 13, 13), (0, 10, 17, 36), (0, 10, 21, 38), (0, 10, 25, 40), (0, 10, 29, 15)]) ({ frames := 64, cells := 3, slots := 18, locals := 1200 }) (xPc D C b0 [.ref h0, .int p0, .int p1, .ref ou] [(h0, .inr (5, [.ref s0, .ref de, .ref kl, .ref tl, .ref cu, .ref hk, .ref ca, .int 0, .int 0, .int (-1), .int 0, .int 0])), (kl, .inr (2, [.ref kx, .ref ky, .int 0])), (tl, .inr (4, [.ref tx, .ref ty, .int 1])), (s0, .inr (3, [.ref a0, .ref a1, .ref a2, .ref a3, .ref a4, .ref a5, .ref a6, .int 0, .ref a7, .ref a8, .ref a9, .ref a10, .ref a11, .int 0])), (ou, .inl (C 2, 1, .inr (.inl fo)))] sz) (va_Qi (fun (r : Int32) (u : Nat → Int64) => r = 1) (xBw D (va_A [(h0, .inr (5, [.ref s0, .ref de, .ref kl, .ref tl, .ref cu, .ref hk, .ref ca, .int 0, .int 0, .int (-1), .int 0, .int 0])), (kl, .inr (2, [.ref kx, .ref ky, .int 0])), (tl, .inr (4, [.ref tx, .ref ty, .int 1])), (s0, .inr (3, [.ref a0, .ref a1, .ref a2, .ref a3, .ref a4, .ref a5, .ref a6, .int 0, .ref a7, .ref a8, .ref a9, .ref a10, .ref a11, .int 0])), (ou, .inl (C 2, 1, .inr (.inl fo)))] sz) (fun u => [(ou, .inl (C 2, 1, .inr (.inl (u))))])) (va_A [(h0, .inr (5, [.ref s0, .ref de, .ref kl, .ref tl, .ref cu, .ref hk, .ref ca, .int 0, .int 0, .int (-1), .int 0, .int 0])), (kl, .inr (2, [.ref kx, .ref ky, .int 0])), (tl, .inr (4, [.ref tx, .ref ty, .int 1])), (s0, .inr (3, [.ref a0, .ref a1, .ref a2, .ref a3, .ref a4, .ref a5, .ref a6, .int 0, .ref a7, .ref a8, .ref a9, .ref a10, .ref a11, .int 0])), (ou, .inl (C 2, 1, .inr (.inl fo)))] sz)) 3 18 (va_A [(h0, .inr (5, [.ref s0, .ref de, .ref kl, .ref tl, .ref cu, .ref hk, .ref ca, .int 0, .int 0, .int (-1), .int 0, .int 0])), (kl, .inr (2, [.ref kx, .ref ky, .int 0])), (tl, .inr (4, [.ref tx, .ref ty, .int 1])), (s0, .inr (3, [.ref a0, .ref a1, .ref a2, .ref a3, .ref a4, .ref a5, .ref a6, .int 0, .ref a7, .ref a8, .ref a9, .ref a10, .ref a11, .int 0])), (ou, .inl (C 2, 1, .inr (.inl fo)))] sz) := by
  refine va_MetW (cc := cL_assign) (maxL := 5) (ret := (some .int)) (by decide) rfl ?_
  intro p e s m args below meth c s₁ B hml hv
  obtain ⟨rfl, hsz, hP, hK, hD0, hE⟩ := hv
  have hx := B.exec
  have hb := B.bytes
  have hr := B.returns
  have ht : ∀ w ∈ xb, w.before _ s = true := fun w h => atoms_spec (ws := xwh yL_assign cL_assign 5 (some .int) [(0, 10, 13, 13), (0, 10, 17, 36), (0, 10, 21, 38), (0, 10, 25, 40), (0, 10, 29, 15)]) B.pre w (List.mem_cons_of_mem _ h)
  have hown : s.vm.findClass RL = some m.cls := findClass_of_methodNamed B.named
  have hlocks := B.notSynchronized
  have hsplit := vx_table (x := yL_assign) B (atoms_spec (ws := xwh yL_assign cL_assign 5 (some .int) [(0, 10, 13, 13), (0, 10, 17, 36), (0, 10, 21, 38), (0, 10, 25, 40), (0, 10, 29, 15)]) B.pre _ List.mem_cons_self)
  subst hsz
  have hAb := x_Ab hD0 hE.1
  have hD := hD0.self (sz := s.heap.size)
  generalize hAe : va_A [(h0, .inr (5, [.ref s0, .ref de, .ref kl, .ref tl, .ref cu, .ref hk, .ref ca, .int 0, .int 0, .int (-1), .int 0, .int 0])), (kl, .inr (2, [.ref kx, .ref ky, .int 0])), (tl, .inr (4, [.ref tx, .ref ty, .int 1])), (s0, .inr (3, [.ref a0, .ref a1, .ref a2, .ref a3, .ref a4, .ref a5, .ref a6, .int 0, .ref a7, .ref a8, .ref a9, .ref a10, .ref a11, .int 0])), (ou, .inl (C 2, 1, .inr (.inl fo)))] s.heap.size = A at hD hAb ⊢
  have hA : ∀ q : Nat, s.heap.size ≤ q → A q := fun q h => by rw [← hAe]; exact Or.inr h
  have hS : va_S A s.heap s.heap [] := va_S.rf
  have hP : va_P D vwCl [(h0, .inr (5, [.ref s0, .ref de, .ref kl, .ref tl, .ref cu, .ref hk, .ref ca, .int 0, .int 0, .int (-1), .int 0, .int 0])), (kl, .inr (2, [.ref kx, .ref ky, .int 0])), (tl, .inr (4, [.ref tx, .ref ty, .int 1])), (s0, .inr (3, [.ref a0, .ref a1, .ref a2, .ref a3, .ref a4, .ref a5, .ref a6, .int 0, .ref a7, .ref a8, .ref a9, .ref a10, .ref a11, .int 0])), (ou, .inl (C 2, 1, .inr (.inl fo)))] s.heap := hP
  have hl := lv_entry ([.ref h0, .int p0, .int p1, .ref ou]) (n := 5) (Nat.le_of_ble_eq_true rfl)
  rw [lg_entry_eq]
  generalize (lg_sl ([.ref h0, .int p0, .int p1, .ref ou]) ++ List.replicate (5 - (lg_sl ([.ref h0, .int p0, .int p1, .ref ou])).length) Slot.unset).toArray = ls at hl ⊢
  have hl : lv_has ls 5 [(0, .ref h0), (1, .int p0), (2, .int p1), (3, .ref ou)] := hl
  refine lv_aload_n hx hb dL_assign_0 rfl (lv_at hl 3 rfl) ?_
  refine lv_iconst (v := 0) hx hb dL_assign_1 (by decide) ?_
  refine lv_aload_n hx hb dL_assign_2 rfl (lv_at hl 0 rfl) ?_
  refine lv_iload_n hx hb dL_assign_3 rfl (lv_at hl 1 rfl) ?_
  refine lv_iload_n hx hb dL_assign_4 rfl (lv_at hl 2 rfl) ?_
  have hPc := hP.sub (ws' := [(h0, .inr (5, [.ref s0, .ref de, .ref kl, .ref tl, .ref cu, .ref hk, .ref ca, .int 0, .int 0, .int (-1), .int 0, .int 0])), (kl, .inr (2, [.ref kx, .ref ky, .int 0])), (tl, .inr (4, [.ref tx, .ref ty, .int 1])), (s0, .inr (3, [.ref a0, .ref a1, .ref a2, .ref a3, .ref a4, .ref a5, .ref a6, .int 0, .ref a7, .ref a8, .ref a9, .ref a10, .ref a11, .int 0]))]) [0, 1, 2, 3] rfl
  have hDc := hD.sub (ws' := [(h0, .inr (5, [.ref s0, .ref de, .ref kl, .ref tl, .ref cu, .ref hk, .ref ca, .int 0, .int 0, .int (-1), .int 0, .int 0])), (kl, .inr (2, [.ref kx, .ref ky, .int 0])), (tl, .inr (4, [.ref tx, .ref ty, .int 1])), (s0, .inr (3, [.ref a0, .ref a1, .ref a2, .ref a3, .ref a4, .ref a5, .ref a6, .int 0, .ref a7, .ref a8, .ref a9, .ref a10, .ref a11, .int 0]))]) [0, 1, 2, 3] (by decide) rfl
  have hFc := va_free (wc := [(h0, .inr (5, [.ref s0, .ref de, .ref kl, .ref tl, .ref cu, .ref hk, .ref ca, .int 0, .int 0, .int (-1), .int 0, .int 0])), (kl, .inr (2, [.ref kx, .ref ky, .int 0])), (tl, .inr (4, [.ref tx, .ref ty, .int 1])), (s0, .inr (3, [.ref a0, .ref a1, .ref a2, .ref a3, .ref a4, .ref a5, .ref a6, .int 0, .ref a7, .ref a8, .ref a9, .ref a10, .ref a11, .int 0]))]) hD hS hA [0, 1, 2, 3] rfl
  refine vx_calli (vx_runV (As := [.int p0, .int p1]) (rest := [.int 0, .ref ou]) ⟨hx, hb, hml, hown, ht⟩ (k5_assign l hl0 D C b0 s.heap.size h0 s0 de kl tl cu hk ca kx ky tx ty a0 a1 a2 a3 a4 a5 a6 a7 a8 a9 a10 a11 p0 p1) (cwV 2 ht (xg_V m_545 m_546 m_547 m_281 m_195) rfl rfl rfl (by decide +kernel) ⟨Nat.le_of_ble_eq_true rfl, Nat.le_of_ble_eq_true rfl⟩) ⟨xPc_bl, va_recv hK hPc (ci := 5) (q0 := 0) rfl rfl, xPc_at hPc hK hDc hE hS hAb⟩ rfl rfl hl.1 rfl (lv_room (Nat.le_of_ble_eq_true rfl)) dL_assign_5 ⟨(by decide), (by decide)⟩) hS (fun q _ h => hFc q h) hFc (fun q _ h => hFc q h) (fun E ce q9 u9 t9 H9 locs9 e9 v9 p9 b9 z9 k9 hS9 hc9 hn9 hf9 => ?_) (fun r_1 u_2 t H1 locs ht1 hvm hw hB hz1 hk1 hS => ?_)
  · skip
    obtain rfl := b9
    obtain ⟨hP, hD⟩ := va_join (wr := [(ou, .inl (C 2, 1, .inr (.inl fo)))]) (w1 := []) hP hD [0, 1, 2, 3] [4] rfl rfl (by decide) (by decide) k9 hFc (fun k q h => by simp at h) ⟨fun i j p q h => by simp at h, fun k q h => by simp at h⟩
    have hP : va_P D vwCl [(ou, .inl (C 2, 1, .inr (.inl fo)))] H9 := hP
    have hD : va_D A [(ou, .inl (C 2, 1, .inr (.inl fo)))] := hD
    have hS := hS9
    refine x_catch hown ⟨0, 10, 13, 13⟩ [⟨0, 10, 17, 36⟩, ⟨0, 10, 21, 38⟩, ⟨0, 10, 25, 40⟩, ⟨0, 10, 29, 15⟩] (hsplit.trans rfl) (by decide) (by decide) (ht _ m_492) (hE.use (by decide +kernel)) hc9 hn9 hf9 ?_
    refine W.widen (k := 3) (n := 18) (by decide) (by decide) ?_
    refine lv_astore (lv' := [(4, .ref q9), (0, .ref h0), (1, .int p0), (2, .int p1), (3, .ref ou)]) hx hb dL_assign_13 hl (by decide) rfl (fun ls hl => ?_)
    refine lv_iconst (v := 1) hx hb dL_assign_15 (by decide) ?_
    have hP9 := hP.sub (ws' := [(ou, .inl (C 2, 1, .inr (.inl fo)))]) [0] rfl
    have hD9 := hD.sub (ws' := [(ou, .inl (C 2, 1, .inr (.inl fo)))]) [0] (by decide) rfl
    refine W.widen (k := 3) (n := 18) (by decide) (by decide) ?_
    exact W.iret (v := 1) hx hb hr (fun t ht1 hW => ⟨⟨1, fo, rfl, by first | trivial | rfl | assumption | decide | (simp_all; done), by rw [ht1]; exact hP9, hD9⟩, hS.F ht1⟩) hS.2.2 dL_assign_16
  · exact hw.elim
set_option maxHeartbeats 4000000 in
set_option maxRecDepth 100000 in
theorem kL_count (l : Launch) (hl0 : l.stackTraces = false) (D : va_G) (C : Nat → ClassId) (b0 sz : Nat) (h0 : Nat) (s0 : Nat) (de : Nat) (kl : Nat) (tl : Nat) (cu : Nat) (hk : Nat) (ca : Nat) (kx : Nat) (ky : Nat) (tx : Nat) (ty : Nat) (a0 : Nat) (a1 : Nat) (a2 : Nat) (a3 : Nat) (a4 : Nat) (a5 : Nat) (a6 : Nat) (a7 : Nat) (a8 : Nat) (a9 : Nat) (a10 : Nat) (a11 : Nat) (p0 : Int32) (ou : Nat) (fo : Nat → Int64) : Met l yL_count (xwh yL_count cL_count 4 (some .int) [(0, 9, 12, 13)]) ({ frames := 64, cells := 3, slots := 18, locals := 1200 }) (xPc D C b0 [.ref h0, .int p0, .ref ou] [(h0, .inr (5, [.ref s0, .ref de, .ref kl, .ref tl, .ref cu, .ref hk, .ref ca, .int 0, .int 0, .int (-1), .int 0, .int 0])), (kl, .inr (2, [.ref kx, .ref ky, .int 0])), (tl, .inr (4, [.ref tx, .ref ty, .int 1])), (s0, .inr (3, [.ref a0, .ref a1, .ref a2, .ref a3, .ref a4, .ref a5, .ref a6, .int 0, .ref a7, .ref a8, .ref a9, .ref a10, .ref a11, .int 0])), (ou, .inl (C 2, 1, .inr (.inl fo)))] sz) (va_Qi (fun (r : Int32) (u : Nat → Int64) => ((p0 = 0 ∨ p0 = 1 ∨ p0 = 2 ∨ p0 = 3) ∧ r = 0 ∧ u 0 = Int32.toInt64 (if p0 = 3 then -1 else 0)) ∨ (¬ (p0 = 0 ∨ p0 = 1 ∨ p0 = 2 ∨ p0 = 3) ∧ r = 1)) (xBw D (va_A [(h0, .inr (5, [.ref s0, .ref de, .ref kl, .ref tl, .ref cu, .ref hk, .ref ca, .int 0, .int 0, .int (-1), .int 0, .int 0])), (kl, .inr (2, [.ref kx, .ref ky, .int 0])), (tl, .inr (4, [.ref tx, .ref ty, .int 1])), (s0, .inr (3, [.ref a0, .ref a1, .ref a2, .ref a3, .ref a4, .ref a5, .ref a6, .int 0, .ref a7, .ref a8, .ref a9, .ref a10, .ref a11, .int 0])), (ou, .inl (C 2, 1, .inr (.inl fo)))] sz) (fun u => [(ou, .inl (C 2, 1, .inr (.inl (u))))])) (va_A [(h0, .inr (5, [.ref s0, .ref de, .ref kl, .ref tl, .ref cu, .ref hk, .ref ca, .int 0, .int 0, .int (-1), .int 0, .int 0])), (kl, .inr (2, [.ref kx, .ref ky, .int 0])), (tl, .inr (4, [.ref tx, .ref ty, .int 1])), (s0, .inr (3, [.ref a0, .ref a1, .ref a2, .ref a3, .ref a4, .ref a5, .ref a6, .int 0, .ref a7, .ref a8, .ref a9, .ref a10, .ref a11, .int 0])), (ou, .inl (C 2, 1, .inr (.inl fo)))] sz)) 3 18 (va_A [(h0, .inr (5, [.ref s0, .ref de, .ref kl, .ref tl, .ref cu, .ref hk, .ref ca, .int 0, .int 0, .int (-1), .int 0, .int 0])), (kl, .inr (2, [.ref kx, .ref ky, .int 0])), (tl, .inr (4, [.ref tx, .ref ty, .int 1])), (s0, .inr (3, [.ref a0, .ref a1, .ref a2, .ref a3, .ref a4, .ref a5, .ref a6, .int 0, .ref a7, .ref a8, .ref a9, .ref a10, .ref a11, .int 0])), (ou, .inl (C 2, 1, .inr (.inl fo)))] sz) := by
  refine va_MetW (cc := cL_count) (maxL := 4) (ret := (some .int)) (by decide) rfl ?_
  intro p e s m args below meth c s₁ B hml hv
  obtain ⟨rfl, hsz, hP, hK, hD0, hE⟩ := hv
  have hx := B.exec
  have hb := B.bytes
  have hr := B.returns
  have ht : ∀ w ∈ xb, w.before _ s = true := fun w h => atoms_spec (ws := xwh yL_count cL_count 4 (some .int) [(0, 9, 12, 13)]) B.pre w (List.mem_cons_of_mem _ h)
  have hown : s.vm.findClass RL = some m.cls := findClass_of_methodNamed B.named
  have hlocks := B.notSynchronized
  have hsplit := vx_table (x := yL_count) B (atoms_spec (ws := xwh yL_count cL_count 4 (some .int) [(0, 9, 12, 13)]) B.pre _ List.mem_cons_self)
  subst hsz
  have hAb := x_Ab hD0 hE.1
  have hD := hD0.self (sz := s.heap.size)
  generalize hAe : va_A [(h0, .inr (5, [.ref s0, .ref de, .ref kl, .ref tl, .ref cu, .ref hk, .ref ca, .int 0, .int 0, .int (-1), .int 0, .int 0])), (kl, .inr (2, [.ref kx, .ref ky, .int 0])), (tl, .inr (4, [.ref tx, .ref ty, .int 1])), (s0, .inr (3, [.ref a0, .ref a1, .ref a2, .ref a3, .ref a4, .ref a5, .ref a6, .int 0, .ref a7, .ref a8, .ref a9, .ref a10, .ref a11, .int 0])), (ou, .inl (C 2, 1, .inr (.inl fo)))] s.heap.size = A at hD hAb ⊢
  have hA : ∀ q : Nat, s.heap.size ≤ q → A q := fun q h => by rw [← hAe]; exact Or.inr h
  have hS : va_S A s.heap s.heap [] := va_S.rf
  have hP : va_P D vwCl [(h0, .inr (5, [.ref s0, .ref de, .ref kl, .ref tl, .ref cu, .ref hk, .ref ca, .int 0, .int 0, .int (-1), .int 0, .int 0])), (kl, .inr (2, [.ref kx, .ref ky, .int 0])), (tl, .inr (4, [.ref tx, .ref ty, .int 1])), (s0, .inr (3, [.ref a0, .ref a1, .ref a2, .ref a3, .ref a4, .ref a5, .ref a6, .int 0, .ref a7, .ref a8, .ref a9, .ref a10, .ref a11, .int 0])), (ou, .inl (C 2, 1, .inr (.inl fo)))] s.heap := hP
  have hl := lv_entry ([.ref h0, .int p0, .ref ou]) (n := 4) (Nat.le_of_ble_eq_true rfl)
  rw [lg_entry_eq]
  generalize (lg_sl ([.ref h0, .int p0, .ref ou]) ++ List.replicate (4 - (lg_sl ([.ref h0, .int p0, .ref ou])).length) Slot.unset).toArray = ls at hl ⊢
  have hl : lv_has ls 4 [(0, .ref h0), (1, .int p0), (2, .ref ou)] := hl
  refine lv_aload_n hx hb dL_count_0 rfl (lv_at hl 2 rfl) ?_
  refine lv_iconst (v := 0) hx hb dL_count_1 (by decide) ?_
  refine lv_aload_n hx hb dL_count_2 rfl (lv_at hl 0 rfl) ?_
  refine lv_iload_n hx hb dL_count_3 rfl (lv_at hl 1 rfl) ?_
  have hPc := hP.sub (ws' := [(h0, .inr (5, [.ref s0, .ref de, .ref kl, .ref tl, .ref cu, .ref hk, .ref ca, .int 0, .int 0, .int (-1), .int 0, .int 0])), (kl, .inr (2, [.ref kx, .ref ky, .int 0])), (tl, .inr (4, [.ref tx, .ref ty, .int 1])), (s0, .inr (3, [.ref a0, .ref a1, .ref a2, .ref a3, .ref a4, .ref a5, .ref a6, .int 0, .ref a7, .ref a8, .ref a9, .ref a10, .ref a11, .int 0]))]) [0, 1, 2, 3] rfl
  have hDc := hD.sub (ws' := [(h0, .inr (5, [.ref s0, .ref de, .ref kl, .ref tl, .ref cu, .ref hk, .ref ca, .int 0, .int 0, .int (-1), .int 0, .int 0])), (kl, .inr (2, [.ref kx, .ref ky, .int 0])), (tl, .inr (4, [.ref tx, .ref ty, .int 1])), (s0, .inr (3, [.ref a0, .ref a1, .ref a2, .ref a3, .ref a4, .ref a5, .ref a6, .int 0, .ref a7, .ref a8, .ref a9, .ref a10, .ref a11, .int 0]))]) [0, 1, 2, 3] (by decide) rfl
  have hFc := va_free (wc := [(h0, .inr (5, [.ref s0, .ref de, .ref kl, .ref tl, .ref cu, .ref hk, .ref ca, .int 0, .int 0, .int (-1), .int 0, .int 0])), (kl, .inr (2, [.ref kx, .ref ky, .int 0])), (tl, .inr (4, [.ref tx, .ref ty, .int 1])), (s0, .inr (3, [.ref a0, .ref a1, .ref a2, .ref a3, .ref a4, .ref a5, .ref a6, .int 0, .ref a7, .ref a8, .ref a9, .ref a10, .ref a11, .int 0]))]) hD hS hA [0, 1, 2, 3] rfl
  refine vx_calli (vx_runV (As := [.int p0]) (rest := [.int 0, .ref ou]) ⟨hx, hb, hml, hown, ht⟩ (k5_count l hl0 D C b0 s.heap.size h0 s0 de kl tl cu hk ca kx ky tx ty a0 a1 a2 a3 a4 a5 a6 a7 a8 a9 a10 a11 p0) (cwV 1 ht (xg_V m_548 m_549 m_550 m_281 m_198) rfl rfl rfl (by decide +kernel) ⟨Nat.le_of_ble_eq_true rfl, Nat.le_of_ble_eq_true rfl⟩) ⟨xPc_bl, va_recv hK hPc (ci := 5) (q0 := 0) rfl rfl, xPc_at hPc hK hDc hE hS hAb⟩ rfl rfl hl.1 rfl (lv_room (Nat.le_of_ble_eq_true rfl)) dL_count_4 ⟨(by decide), (by decide)⟩) hS (fun q _ h => hFc q h) hFc (fun q _ h => hFc q h) (fun E ce q9 u9 t9 H9 locs9 e9 v9 p9 b9 z9 k9 hS9 hc9 hn9 hf9 => ?_) (fun r_1 u_2 t H1 locs ht1 hvm hw hB hz1 hk1 hS => ?_)
  · skip
    obtain rfl := b9
    obtain ⟨hP, hD⟩ := va_join (wr := [(ou, .inl (C 2, 1, .inr (.inl fo)))]) (w1 := []) hP hD [0, 1, 2, 3] [4] rfl rfl (by decide) (by decide) k9 hFc (fun k q h => by simp at h) ⟨fun i j p q h => by simp at h, fun k q h => by simp at h⟩
    have hP : va_P D vwCl [(ou, .inl (C 2, 1, .inr (.inl fo)))] H9 := hP
    have hD : va_D A [(ou, .inl (C 2, 1, .inr (.inl fo)))] := hD
    have hS := hS9
    refine x_catch hown ⟨0, 9, 12, 13⟩ [] (hsplit.trans rfl) (by decide) (by decide) (ht _ m_492) (hE.use (by decide +kernel)) hc9 hn9 hf9 ?_
    refine W.widen (k := 3) (n := 18) (by decide) (by decide) ?_
    refine lv_astore_n (lv' := [(3, .ref q9), (0, .ref h0), (1, .int p0), (2, .ref ou)]) hx hb dL_count_12 rfl hl (by decide) rfl (fun ls hl => ?_)
    refine lv_iconst (v := 1) hx hb dL_count_13 (by decide) ?_
    have hP9 := hP.sub (ws' := [(ou, .inl (C 2, 1, .inr (.inl fo)))]) [0] rfl
    have hD9 := hD.sub (ws' := [(ou, .inl (C 2, 1, .inr (.inl fo)))]) [0] (by decide) rfl
    refine W.widen (k := 3) (n := 18) (by decide) (by decide) ?_
    exact W.iret (v := 1) hx hb hr (fun t ht1 hW => ⟨⟨1, fo, rfl, Or.inr ⟨p9, rfl⟩, by rw [ht1]; exact hP9, hD9⟩, hS.F ht1⟩) hS.2.2 dL_count_14
  · skip
    obtain ⟨hP1, hD1⟩ := hB
    rw [ht1] at hP1
    try dsimp only at hw
    obtain ⟨hP, hD⟩ := va_join (wr := [(ou, .inl (C 2, 1, .inr (.inl fo)))]) (w1 := []) hP hD [0, 1, 2, 3] [4] rfl rfl (by decide) (by decide) hk1 hFc hP1 hD1
    generalize H1 = H at hP hS ⊢
    have hP : va_P D vwCl [(ou, .inl (C 2, 1, .inr (.inl fo)))] H := hP
    have hD : va_D A [(ou, .inl (C 2, 1, .inr (.inl fo)))] := hD
    have hq_4 := hw
    refine W.widen (k := 3) (n := 18) (by decide) (by decide) ?_
    refine lv_i2l hx hb dL_count_7 rfl ?_
    refine va_last hx hb hK hP hD hS 0 2 rfl rfl (by unfold vp_in; decide) dL_count_8 (fun H locs hP hD hS => ?_)
    have hP : va_P D vwCl [(ou, .inl (C 2, 1, .inr (.inl ((vp_updL fo (Int32.toNatClampNeg 0) (Int32.toInt64 r_1))))))] H := hP
    have hD : va_D A [(ou, .inl (C 2, 1, .inr (.inl ((vp_updL fo (Int32.toNatClampNeg 0) (Int32.toInt64 r_1))))))] := hD
    refine lv_goto (tgt := 15) hx hb dL_count_9 (by decide) ?_
    refine lv_iconst (v := 0) hx hb dL_count_15 (by decide) ?_
    have hP9 := hP.sub (ws' := [(ou, .inl (C 2, 1, .inr (.inl ((vp_updL fo (Int32.toNatClampNeg 0) (Int32.toInt64 r_1))))))]) [0] rfl
    have hD9 := hD.sub (ws' := [(ou, .inl (C 2, 1, .inr (.inl ((vp_updL fo (Int32.toNatClampNeg 0) (Int32.toInt64 r_1))))))]) [0] (by decide) rfl
    refine W.widen (k := 3) (n := 18) (by decide) (by decide) ?_
    exact W.iret (v := 0) hx hb hr (fun t ht1 hW => ⟨⟨0, (vp_updL fo (Int32.toNatClampNeg 0) (Int32.toInt64 r_1)), rfl, Or.inl ⟨hq_4.1, rfl, x_uL0.trans (congrArg Int32.toInt64 hq_4.2)⟩, by rw [ht1]; exact hP9, hD9⟩, hS.F ht1⟩) hS.2.2 dL_count_16
