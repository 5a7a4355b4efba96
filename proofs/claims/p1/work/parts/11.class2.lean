set_option maxHeartbeats 4000000 in
set_option maxRecDepth 100000 in
theorem k3_isSlot0 (l : Launch) (D : va_G) (C : Nat → ClassId) (b0 sz : Nat) (h0 : Nat) (a0 : Nat) (a1 : Nat) (a2 : Nat) (a3 : Nat) (a4 : Nat) (a5 : Nat) (a6 : Nat) (a7 : Nat) (a8 : Nat) (a9 : Nat) (a10 : Nat) (a11 : Nat) (ff : Int32) : Met l yX3_isSlot (xw yX3_isSlot cX3_isSlot 2 (some .boolean)) ({ frames := 8, cells := 0, slots := 0, locals := 150 }) (xPc D C b0 [.ref h0, .int 0] [(h0, .inr (3, [.ref a0, .ref a1, .ref a2, .ref a3, .ref a4, .ref a5, .ref a6, .int 1, .ref a7, .ref a8, .ref a9, .ref a10, .ref a11, .int ff]))] sz) (va_Qi (fun (r : Int32) (u : xS) => r = 1) (xBw D (va_A [(h0, .inr (3, [.ref a0, .ref a1, .ref a2, .ref a3, .ref a4, .ref a5, .ref a6, .int 1, .ref a7, .ref a8, .ref a9, .ref a10, .ref a11, .int ff]))] sz) (fun u => [(h0, .inr (3, [.ref a0, .ref a1, .ref a2, .ref a3, .ref a4, .ref a5, .ref a6, .int 1, .ref a7, .ref a8, .ref a9, .ref a10, .ref a11, .int ff]))])) (va_A [(h0, .inr (3, [.ref a0, .ref a1, .ref a2, .ref a3, .ref a4, .ref a5, .ref a6, .int 1, .ref a7, .ref a8, .ref a9, .ref a10, .ref a11, .int ff]))] sz)) 0 0 (va_A [(h0, .inr (3, [.ref a0, .ref a1, .ref a2, .ref a3, .ref a4, .ref a5, .ref a6, .int 1, .ref a7, .ref a8, .ref a9, .ref a10, .ref a11, .int ff]))] sz) := by
  refine Met.ofW (cc := cX3_isSlot) (maxL := 2) (ret := (some .boolean)) (by decide) rfl ?_
  intro p e s m args below meth c s₁ B hml hv
  obtain ⟨rfl, hsz, hP, hK, hD0, hE⟩ := hv
  have hx := B.exec
  have hb := B.bytes
  have hr := B.returns
  have ht : ∀ w ∈ xb, w.before _ s = true := fun w h => atoms_spec (ws := xw yX3_isSlot cX3_isSlot 2 (some .boolean)) B.pre w (List.mem_cons_of_mem _ h)
  have hown : s.vm.findClass RX3 = some m.cls := findClass_of_methodNamed B.named
  have hlocks := B.notSynchronized
  subst hsz
  have hAb := x_Ab hD0 hE.1
  have hD := hD0.self (sz := s.heap.size)
  generalize hAe : va_A [(h0, .inr (3, [.ref a0, .ref a1, .ref a2, .ref a3, .ref a4, .ref a5, .ref a6, .int 1, .ref a7, .ref a8, .ref a9, .ref a10, .ref a11, .int ff]))] s.heap.size = A at hD hAb ⊢
  have hA : ∀ q : Nat, s.heap.size ≤ q → A q := fun q h => by rw [← hAe]; exact Or.inr h
  have hS : va_S A s.heap s.heap [] := va_S.rf
  have hP : va_P D vwCl [(h0, .inr (3, [.ref a0, .ref a1, .ref a2, .ref a3, .ref a4, .ref a5, .ref a6, .int 1, .ref a7, .ref a8, .ref a9, .ref a10, .ref a11, .int ff]))] s.heap := hP
  have hl := lv_entry ([.ref h0, .int 0]) (n := 2) (Nat.le_of_ble_eq_true rfl)
  rw [lg_entry_eq]
  generalize (lg_sl ([.ref h0, .int 0]) ++ List.replicate (2 - (lg_sl ([.ref h0, .int 0])).length) Slot.unset).toArray = ls at hl ⊢
  have hl : lv_has ls 2 [(0, .ref h0), (1, .int 0)] := hl
  refine lv_iload_n hx hb dX3_isSlot_0 rfl (lv_at hl 1 rfl) ?_
  refine lv_if_lt (tgt := 15) hx hb dX3_isSlot_1 (by decide) (fun c_1 => ?_) (fun c_1 => ?_)
  · exact absurd c_1 (by decide)
  refine lv_iload_n hx hb dX3_isSlot_4 rfl (lv_at hl 1 rfl) ?_
  refine lv_sipush (v := 5999) hx hb dX3_isSlot_5 (by decide) ?_
  refine lv_icmp_ge (tgt := 15) hx hb dX3_isSlot_8 (by decide) (fun c_8 => ?_) (fun c_8 => ?_)
  · exact absurd c_8 (by decide)
  refine lv_iconst (v := 1) hx hb dX3_isSlot_11 (by decide) ?_
  refine lv_goto (tgt := 16) hx hb dX3_isSlot_12 (by decide) ?_
  have hP9 := hP.sub (ws' := [(h0, .inr (3, [.ref a0, .ref a1, .ref a2, .ref a3, .ref a4, .ref a5, .ref a6, .int 1, .ref a7, .ref a8, .ref a9, .ref a10, .ref a11, .int ff]))]) [0] rfl
  have hD9 := hD.sub (ws' := [(h0, .inr (3, [.ref a0, .ref a1, .ref a2, .ref a3, .ref a4, .ref a5, .ref a6, .int 1, .ref a7, .ref a8, .ref a9, .ref a10, .ref a11, .int ff]))]) [0] (by decide) rfl
  refine W.widen (k := 0) (n := 0) (by decide) (by decide) ?_
  exact W.zret (v := 1) (ty := .boolean) hx hb hr rfl (fun t ht1 hW => ⟨⟨1, (xA [], xF []), rfl, by first | trivial | rfl | assumption | decide | (simp_all; done), by rw [ht1]; exact hP9, hD9⟩, hS.F ht1⟩) hS.2.2 dX3_isSlot_16
set_option maxHeartbeats 4000000 in
set_option maxRecDepth 100000 in
theorem k3_isSlotN (l : Launch) (D : va_G) (C : Nat → ClassId) (b0 sz : Nat) (h0 : Nat) (a0 : Nat) (a1 : Nat) (a2 : Nat) (a3 : Nat) (a4 : Nat) (a5 : Nat) (a6 : Nat) (a7 : Nat) (a8 : Nat) (a9 : Nat) (a10 : Nat) (a11 : Nat) (ff : Int32) : Met l yX3_isSlot (xw yX3_isSlot cX3_isSlot 2 (some .boolean)) ({ frames := 8, cells := 0, slots := 0, locals := 150 }) (xPc D C b0 [.ref h0, .int (-1)] [(h0, .inr (3, [.ref a0, .ref a1, .ref a2, .ref a3, .ref a4, .ref a5, .ref a6, .int 1, .ref a7, .ref a8, .ref a9, .ref a10, .ref a11, .int ff]))] sz) (va_Qi (fun (r : Int32) (u : xS) => r = 0) (xBw D (va_A [(h0, .inr (3, [.ref a0, .ref a1, .ref a2, .ref a3, .ref a4, .ref a5, .ref a6, .int 1, .ref a7, .ref a8, .ref a9, .ref a10, .ref a11, .int ff]))] sz) (fun u => [(h0, .inr (3, [.ref a0, .ref a1, .ref a2, .ref a3, .ref a4, .ref a5, .ref a6, .int 1, .ref a7, .ref a8, .ref a9, .ref a10, .ref a11, .int ff]))])) (va_A [(h0, .inr (3, [.ref a0, .ref a1, .ref a2, .ref a3, .ref a4, .ref a5, .ref a6, .int 1, .ref a7, .ref a8, .ref a9, .ref a10, .ref a11, .int ff]))] sz)) 0 0 (va_A [(h0, .inr (3, [.ref a0, .ref a1, .ref a2, .ref a3, .ref a4, .ref a5, .ref a6, .int 1, .ref a7, .ref a8, .ref a9, .ref a10, .ref a11, .int ff]))] sz) := by
  refine Met.ofW (cc := cX3_isSlot) (maxL := 2) (ret := (some .boolean)) (by decide) rfl ?_
  intro p e s m args below meth c s₁ B hml hv
  obtain ⟨rfl, hsz, hP, hK, hD0, hE⟩ := hv
  have hx := B.exec
  have hb := B.bytes
  have hr := B.returns
  have ht : ∀ w ∈ xb, w.before _ s = true := fun w h => atoms_spec (ws := xw yX3_isSlot cX3_isSlot 2 (some .boolean)) B.pre w (List.mem_cons_of_mem _ h)
  have hown : s.vm.findClass RX3 = some m.cls := findClass_of_methodNamed B.named
  have hlocks := B.notSynchronized
  subst hsz
  have hAb := x_Ab hD0 hE.1
  have hD := hD0.self (sz := s.heap.size)
  generalize hAe : va_A [(h0, .inr (3, [.ref a0, .ref a1, .ref a2, .ref a3, .ref a4, .ref a5, .ref a6, .int 1, .ref a7, .ref a8, .ref a9, .ref a10, .ref a11, .int ff]))] s.heap.size = A at hD hAb ⊢
  have hA : ∀ q : Nat, s.heap.size ≤ q → A q := fun q h => by rw [← hAe]; exact Or.inr h
  have hS : va_S A s.heap s.heap [] := va_S.rf
  have hP : va_P D vwCl [(h0, .inr (3, [.ref a0, .ref a1, .ref a2, .ref a3, .ref a4, .ref a5, .ref a6, .int 1, .ref a7, .ref a8, .ref a9, .ref a10, .ref a11, .int ff]))] s.heap := hP
  have hl := lv_entry ([.ref h0, .int (-1)]) (n := 2) (Nat.le_of_ble_eq_true rfl)
  rw [lg_entry_eq]
  generalize (lg_sl ([.ref h0, .int (-1)]) ++ List.replicate (2 - (lg_sl ([.ref h0, .int (-1)])).length) Slot.unset).toArray = ls at hl ⊢
  have hl : lv_has ls 2 [(0, .ref h0), (1, .int (-1))] := hl
  refine lv_iload_n hx hb dX3_isSlot_0 rfl (lv_at hl 1 rfl) ?_
  refine lv_if_lt (tgt := 15) hx hb dX3_isSlot_1 (by decide) (fun c_1 => ?_) (fun c_1 => ?_)
  rotate_left
  · exact absurd c_1 (by decide)
  refine lv_iconst (v := 0) hx hb dX3_isSlot_15 (by decide) ?_
  have hP9 := hP.sub (ws' := [(h0, .inr (3, [.ref a0, .ref a1, .ref a2, .ref a3, .ref a4, .ref a5, .ref a6, .int 1, .ref a7, .ref a8, .ref a9, .ref a10, .ref a11, .int ff]))]) [0] rfl
  have hD9 := hD.sub (ws' := [(h0, .inr (3, [.ref a0, .ref a1, .ref a2, .ref a3, .ref a4, .ref a5, .ref a6, .int 1, .ref a7, .ref a8, .ref a9, .ref a10, .ref a11, .int ff]))]) [0] (by decide) rfl
  refine W.widen (k := 0) (n := 0) (by decide) (by decide) ?_
  exact W.zret (v := 0) (ty := .boolean) hx hb hr rfl (fun t ht1 hW => ⟨⟨0, (xA [], xF []), rfl, by first | trivial | rfl | assumption | decide | (simp_all; done), by rw [ht1]; exact hP9, hD9⟩, hS.F ht1⟩) hS.2.2 dX3_isSlot_16
set_option maxHeartbeats 4000000 in
set_option maxRecDepth 100000 in
theorem k3_add (l : Launch) (D : va_G) (C : Nat → ClassId) (b0 sz : Nat) (h0 : Nat) (a0 : Nat) (a1 : Nat) (a2 : Nat) (a3 : Nat) (a4 : Nat) (a5 : Nat) (a6 : Nat) (a7 : Nat) (a8 : Nat) (a9 : Nat) (a10 : Nat) (a11 : Nat) (f0 : Nat → Int32) (f1 : Nat → Int32) (f2 : Nat → Int32) (f3 : Nat → Int32) (kd : Int32) (pa : Int32) : Met l yX3_add (xw yX3_add cX3_add 4 (some .int)) ({ frames := 8, cells := 0, slots := 0, locals := 150 }) (xPc D C b0 [.ref h0, .int kd, .int pa] [(h0, .inr (3, [.ref a0, .ref a1, .ref a2, .ref a3, .ref a4, .ref a5, .ref a6, .int 0, .ref a7, .ref a8, .ref a9, .ref a10, .ref a11, .int 0])), (a0, .inl (C 0, 600, .inl f0)), (a1, .inl (C 0, 600, .inl f1)), (a2, .inl (C 1, 600, .inl f2)), (a3, .inl (C 0, 600, .inl f3))] sz) (va_Qi (fun (r : Int32) (u : xS) => r = -2 ∧ u.2 3 0 = -1) (xBw D (va_A [(h0, .inr (3, [.ref a0, .ref a1, .ref a2, .ref a3, .ref a4, .ref a5, .ref a6, .int 0, .ref a7, .ref a8, .ref a9, .ref a10, .ref a11, .int 0])), (a0, .inl (C 0, 600, .inl f0)), (a1, .inl (C 0, 600, .inl f1)), (a2, .inl (C 1, 600, .inl f2)), (a3, .inl (C 0, 600, .inl f3))] sz) (fun u => [(h0, .inr (3, [.ref a0, .ref a1, .ref a2, .ref a3, .ref a4, .ref a5, .ref a6, .int 1, .ref a7, .ref a8, .ref a9, .ref a10, .ref a11, .int 0])), (a0, .inl (C 0, 600, .inl (u.2 0))), (a1, .inl (C 0, 600, .inl (u.2 1))), (a2, .inl (C 1, 600, .inl (u.2 2))), (a3, .inl (C 0, 600, .inl (u.2 3)))])) (va_A [(h0, .inr (3, [.ref a0, .ref a1, .ref a2, .ref a3, .ref a4, .ref a5, .ref a6, .int 0, .ref a7, .ref a8, .ref a9, .ref a10, .ref a11, .int 0])), (a0, .inl (C 0, 600, .inl f0)), (a1, .inl (C 0, 600, .inl f1)), (a2, .inl (C 1, 600, .inl f2)), (a3, .inl (C 0, 600, .inl f3))] sz)) 0 0 (va_A [(h0, .inr (3, [.ref a0, .ref a1, .ref a2, .ref a3, .ref a4, .ref a5, .ref a6, .int 0, .ref a7, .ref a8, .ref a9, .ref a10, .ref a11, .int 0])), (a0, .inl (C 0, 600, .inl f0)), (a1, .inl (C 0, 600, .inl f1)), (a2, .inl (C 1, 600, .inl f2)), (a3, .inl (C 0, 600, .inl f3))] sz) := by
  refine Met.ofW (cc := cX3_add) (maxL := 4) (ret := (some .int)) (by decide) rfl ?_
  intro p e s m args below meth c s₁ B hml hv
  obtain ⟨rfl, hsz, hP, hK, hD0, hE⟩ := hv
  have hx := B.exec
  have hb := B.bytes
  have hr := B.returns
  have ht : ∀ w ∈ xb, w.before _ s = true := fun w h => atoms_spec (ws := xw yX3_add cX3_add 4 (some .int)) B.pre w (List.mem_cons_of_mem _ h)
  have hown : s.vm.findClass RX3 = some m.cls := findClass_of_methodNamed B.named
  have hlocks := B.notSynchronized
  subst hsz
  have hAb := x_Ab hD0 hE.1
  have hD := hD0.self (sz := s.heap.size)
  generalize hAe : va_A [(h0, .inr (3, [.ref a0, .ref a1, .ref a2, .ref a3, .ref a4, .ref a5, .ref a6, .int 0, .ref a7, .ref a8, .ref a9, .ref a10, .ref a11, .int 0])), (a0, .inl (C 0, 600, .inl f0)), (a1, .inl (C 0, 600, .inl f1)), (a2, .inl (C 1, 600, .inl f2)), (a3, .inl (C 0, 600, .inl f3))] s.heap.size = A at hD hAb ⊢
  have hA : ∀ q : Nat, s.heap.size ≤ q → A q := fun q h => by rw [← hAe]; exact Or.inr h
  have hS : va_S A s.heap s.heap [] := va_S.rf
  have hP : va_P D vwCl [(h0, .inr (3, [.ref a0, .ref a1, .ref a2, .ref a3, .ref a4, .ref a5, .ref a6, .int 0, .ref a7, .ref a8, .ref a9, .ref a10, .ref a11, .int 0])), (a0, .inl (C 0, 600, .inl f0)), (a1, .inl (C 0, 600, .inl f1)), (a2, .inl (C 1, 600, .inl f2)), (a3, .inl (C 0, 600, .inl f3))] s.heap := hP
  have hl := lv_entry ([.ref h0, .int kd, .int pa]) (n := 4) (Nat.le_of_ble_eq_true rfl)
  rw [lg_entry_eq]
  generalize (lg_sl ([.ref h0, .int kd, .int pa]) ++ List.replicate (4 - (lg_sl ([.ref h0, .int kd, .int pa])).length) Slot.unset).toArray = ls at hl ⊢
  have hl : lv_has ls 4 [(0, .ref h0), (1, .int kd), (2, .int pa)] := hl
  refine lv_aload_n hx hb dX3_add_0 rfl (lv_at hl 0 rfl) ?_
  refine va_get (D := D) (ci := 3) (v := .int 0) (C := RX3) (T := TX3) (N := 14) hx hb ht inX3 hown hK hP 0 rfl rfl 7 (by decide) (ht _ m_254) (fun _ h9 => h9) rfl dX3_add_1 ?_
  refine lv_istore_n (lv' := [(3, .int 0), (0, .ref h0), (1, .int kd), (2, .int pa)]) hx hb dX3_add_4 rfl hl (by decide) rfl (fun ls hl => ?_)
  refine lv_iload_n hx hb dX3_add_5 rfl (lv_at hl 0 rfl) ?_
  refine lv_sipush (v := 600) hx hb dX3_add_6 (by decide) ?_
  refine lv_icmp_ge (tgt := 21) hx hb dX3_add_9 (by decide) (fun c_9 => ?_) (fun c_9 => ?_)
  · exact absurd c_9 (by decide)
  refine lv_iload_n hx hb dX3_add_12 rfl (lv_at hl 0 rfl) ?_
  refine lv_aload_n hx hb dX3_add_13 rfl (lv_at hl 1 rfl) ?_
  refine va_get (D := D) (ci := 3) (v := .ref a0) (C := RX3) (T := TX3) (N := 14) hx hb ht inX3 hown hK hP 0 rfl rfl 0 (by decide) (ht _ m_282) (fun _ h9 => h9) rfl dX3_add_14 ?_
  refine va_alen (v := 600) hx hb hK hP 1 0 rfl rfl (show Int32.ofNat 600 = 600 by decide) dX3_add_17 ?_
  refine lv_icmp_lt (tgt := 31) hx hb dX3_add_18 (by decide) (fun c_18 => ?_) (fun c_18 => ?_)
  rotate_left
  · exact absurd c_18 (by decide)
  refine lv_aload_n hx hb dX3_add_31 rfl (lv_at hl 1 rfl) ?_
  refine va_get (D := D) (ci := 3) (v := .ref a0) (C := RX3) (T := TX3) (N := 14) hx hb ht inX3 hown hK hP 0 rfl rfl 0 (by decide) (ht _ m_282) (fun _ h9 => h9) rfl dX3_add_32 ?_
  refine lv_iload_n hx hb dX3_add_35 rfl (lv_at hl 0 rfl) ?_
  refine lv_iload_n hx hb dX3_add_36 rfl (lv_at hl 2 rfl) ?_
  refine va_iast hx hb hK hP hD hS 1 0 rfl rfl (by unfold vp_in; decide) dX3_add_37 (fun H locs hP hD hS => ?_)
  have hP : va_P D vwCl [(h0, .inr (3, [.ref a0, .ref a1, .ref a2, .ref a3, .ref a4, .ref a5, .ref a6, .int 0, .ref a7, .ref a8, .ref a9, .ref a10, .ref a11, .int 0])), (a0, .inl (C 0, 600, .inl ((upd f0 (Int32.toNatClampNeg 0) kd)))), (a1, .inl (C 0, 600, .inl f1)), (a2, .inl (C 1, 600, .inl f2)), (a3, .inl (C 0, 600, .inl f3))] H := hP
  have hD : va_D A [(h0, .inr (3, [.ref a0, .ref a1, .ref a2, .ref a3, .ref a4, .ref a5, .ref a6, .int 0, .ref a7, .ref a8, .ref a9, .ref a10, .ref a11, .int 0])), (a0, .inl (C 0, 600, .inl ((upd f0 (Int32.toNatClampNeg 0) kd)))), (a1, .inl (C 0, 600, .inl f1)), (a2, .inl (C 1, 600, .inl f2)), (a3, .inl (C 0, 600, .inl f3))] := hD
  refine lv_aload_n hx hb dX3_add_38 rfl (lv_at hl 1 rfl) ?_
  refine va_get (D := D) (ci := 3) (v := .ref a1) (C := RX3) (T := TX3) (N := 14) hx hb ht inX3 hown hK hP 0 rfl rfl 1 (by decide) (ht _ m_283) (fun _ h9 => h9) rfl dX3_add_39 ?_
  refine lv_iload_n hx hb dX3_add_42 rfl (lv_at hl 0 rfl) ?_
  refine lv_iload_n hx hb dX3_add_43 rfl (lv_at hl 3 rfl) ?_
  refine va_iast hx hb hK hP hD hS 2 0 rfl rfl (by unfold vp_in; decide) dX3_add_44 (fun H locs hP hD hS => ?_)
  have hP : va_P D vwCl [(h0, .inr (3, [.ref a0, .ref a1, .ref a2, .ref a3, .ref a4, .ref a5, .ref a6, .int 0, .ref a7, .ref a8, .ref a9, .ref a10, .ref a11, .int 0])), (a0, .inl (C 0, 600, .inl ((upd f0 (Int32.toNatClampNeg 0) kd)))), (a1, .inl (C 0, 600, .inl ((upd f1 (Int32.toNatClampNeg 0) pa)))), (a2, .inl (C 1, 600, .inl f2)), (a3, .inl (C 0, 600, .inl f3))] H := hP
  have hD : va_D A [(h0, .inr (3, [.ref a0, .ref a1, .ref a2, .ref a3, .ref a4, .ref a5, .ref a6, .int 0, .ref a7, .ref a8, .ref a9, .ref a10, .ref a11, .int 0])), (a0, .inl (C 0, 600, .inl ((upd f0 (Int32.toNatClampNeg 0) kd)))), (a1, .inl (C 0, 600, .inl ((upd f1 (Int32.toNatClampNeg 0) pa)))), (a2, .inl (C 1, 600, .inl f2)), (a3, .inl (C 0, 600, .inl f3))] := hD
  refine lv_aload_n hx hb dX3_add_45 rfl (lv_at hl 1 rfl) ?_
  refine va_get (D := D) (ci := 3) (v := .ref a2) (C := RX3) (T := TX3) (N := 14) hx hb ht inX3 hown hK hP 0 rfl rfl 2 (by decide) (ht _ m_284) (fun _ h9 => h9) rfl dX3_add_46 ?_
  refine lv_iload_n hx hb dX3_add_49 rfl (lv_at hl 0 rfl) ?_
  refine lv_iconst (v := 1) hx hb dX3_add_50 (by decide) ?_
  refine va_zast hx hb hK hP hD hS 3 1 rfl rfl (by unfold vp_in; decide) dX3_add_51 (fun H locs hP hD hS => ?_)
  have hP : va_P D vwCl [(h0, .inr (3, [.ref a0, .ref a1, .ref a2, .ref a3, .ref a4, .ref a5, .ref a6, .int 0, .ref a7, .ref a8, .ref a9, .ref a10, .ref a11, .int 0])), (a0, .inl (C 0, 600, .inl ((upd f0 (Int32.toNatClampNeg 0) kd)))), (a1, .inl (C 0, 600, .inl ((upd f1 (Int32.toNatClampNeg 0) pa)))), (a2, .inl (C 1, 600, .inl ((upd f2 (Int32.toNatClampNeg 0) (vp_nar .boolean 1))))), (a3, .inl (C 0, 600, .inl f3))] H := hP
  have hD : va_D A [(h0, .inr (3, [.ref a0, .ref a1, .ref a2, .ref a3, .ref a4, .ref a5, .ref a6, .int 0, .ref a7, .ref a8, .ref a9, .ref a10, .ref a11, .int 0])), (a0, .inl (C 0, 600, .inl ((upd f0 (Int32.toNatClampNeg 0) kd)))), (a1, .inl (C 0, 600, .inl ((upd f1 (Int32.toNatClampNeg 0) pa)))), (a2, .inl (C 1, 600, .inl ((upd f2 (Int32.toNatClampNeg 0) (vp_nar .boolean 1))))), (a3, .inl (C 0, 600, .inl f3))] := hD
  refine lv_aload_n hx hb dX3_add_52 rfl (lv_at hl 1 rfl) ?_
  refine va_get (D := D) (ci := 3) (v := .ref a3) (C := RX3) (T := TX3) (N := 14) hx hb ht inX3 hown hK hP 0 rfl rfl 3 (by decide) (ht _ m_285) (fun _ h9 => h9) rfl dX3_add_53 ?_
  refine lv_iload_n hx hb dX3_add_56 rfl (lv_at hl 0 rfl) ?_
  refine lv_iconst (v := (-1)) hx hb dX3_add_57 (by decide) ?_
  refine va_iast hx hb hK hP hD hS 4 0 rfl rfl (by unfold vp_in; decide) dX3_add_58 (fun H locs hP hD hS => ?_)
  have hP : va_P D vwCl [(h0, .inr (3, [.ref a0, .ref a1, .ref a2, .ref a3, .ref a4, .ref a5, .ref a6, .int 0, .ref a7, .ref a8, .ref a9, .ref a10, .ref a11, .int 0])), (a0, .inl (C 0, 600, .inl ((upd f0 (Int32.toNatClampNeg 0) kd)))), (a1, .inl (C 0, 600, .inl ((upd f1 (Int32.toNatClampNeg 0) pa)))), (a2, .inl (C 1, 600, .inl ((upd f2 (Int32.toNatClampNeg 0) (vp_nar .boolean 1))))), (a3, .inl (C 0, 600, .inl ((upd f3 (Int32.toNatClampNeg 0) (-1)))))] H := hP
  have hD : va_D A [(h0, .inr (3, [.ref a0, .ref a1, .ref a2, .ref a3, .ref a4, .ref a5, .ref a6, .int 0, .ref a7, .ref a8, .ref a9, .ref a10, .ref a11, .int 0])), (a0, .inl (C 0, 600, .inl ((upd f0 (Int32.toNatClampNeg 0) kd)))), (a1, .inl (C 0, 600, .inl ((upd f1 (Int32.toNatClampNeg 0) pa)))), (a2, .inl (C 1, 600, .inl ((upd f2 (Int32.toNatClampNeg 0) (vp_nar .boolean 1))))), (a3, .inl (C 0, 600, .inl ((upd f3 (Int32.toNatClampNeg 0) (-1)))))] := hD
  refine lv_aload_n hx hb dX3_add_59 rfl (lv_at hl 1 rfl) ?_
  refine lv_dup hx hb dX3_add_60 rfl ?_
  refine va_get (D := D) (ci := 3) (v := .int 0) (C := RX3) (T := TX3) (N := 14) hx hb ht inX3 hown hK hP 0 rfl rfl 7 (by decide) (ht _ m_254) (fun _ h9 => h9) rfl dX3_add_61 ?_
  refine lv_iconst (v := 1) hx hb dX3_add_64 (by decide) ?_
  refine lv_iadd hx hb dX3_add_65 ?_
  refine lv_topi (fun x_1 ex_1 => ?_)
  obtain rfl : x_1 = (1 : Int32) := ex_1.trans (by decide)
  refine va_put (D := D) (ci := 3) (v := .int 1) (ty := tyX3 7) (C := RX3) (T := TX3) (N := 14) hx hb ht inX3 tyX3 tyX3_ok nmX3 hown hK hP hD hS 0 rfl rfl 7 (by decide) (ht _ m_254) (fun _ h9 => h9) rfl (by decide +kernel) rfl rfl (Nat.le_of_ble_eq_true rfl) dX3_add_66 (fun H locs hP hD hS => ?_)
  have hP : va_P D vwCl [(h0, .inr (3, [.ref a0, .ref a1, .ref a2, .ref a3, .ref a4, .ref a5, .ref a6, .int 1, .ref a7, .ref a8, .ref a9, .ref a10, .ref a11, .int 0])), (a0, .inl (C 0, 600, .inl ((upd f0 (Int32.toNatClampNeg 0) kd)))), (a1, .inl (C 0, 600, .inl ((upd f1 (Int32.toNatClampNeg 0) pa)))), (a2, .inl (C 1, 600, .inl ((upd f2 (Int32.toNatClampNeg 0) (vp_nar .boolean 1))))), (a3, .inl (C 0, 600, .inl ((upd f3 (Int32.toNatClampNeg 0) (-1)))))] H := hP
  have hD : va_D A [(h0, .inr (3, [.ref a0, .ref a1, .ref a2, .ref a3, .ref a4, .ref a5, .ref a6, .int 1, .ref a7, .ref a8, .ref a9, .ref a10, .ref a11, .int 0])), (a0, .inl (C 0, 600, .inl ((upd f0 (Int32.toNatClampNeg 0) kd)))), (a1, .inl (C 0, 600, .inl ((upd f1 (Int32.toNatClampNeg 0) pa)))), (a2, .inl (C 1, 600, .inl ((upd f2 (Int32.toNatClampNeg 0) (vp_nar .boolean 1))))), (a3, .inl (C 0, 600, .inl ((upd f3 (Int32.toNatClampNeg 0) (-1)))))] := hD
  refine lv_bipush (v := (-2)) hx hb dX3_add_69 (by decide) ?_
  refine lv_iload_n hx hb dX3_add_71 rfl (lv_at hl 0 rfl) ?_
  refine lv_isub hx hb dX3_add_72 ?_
  refine lv_topi (fun x_2 ex_2 => ?_)
  obtain rfl : x_2 = (-2 : Int32) := ex_2.trans (by decide)
  have hP9 := hP.sub (ws' := [(h0, .inr (3, [.ref a0, .ref a1, .ref a2, .ref a3, .ref a4, .ref a5, .ref a6, .int 1, .ref a7, .ref a8, .ref a9, .ref a10, .ref a11, .int 0])), (a0, .inl (C 0, 600, .inl ((upd f0 (Int32.toNatClampNeg 0) kd)))), (a1, .inl (C 0, 600, .inl ((upd f1 (Int32.toNatClampNeg 0) pa)))), (a2, .inl (C 1, 600, .inl ((upd f2 (Int32.toNatClampNeg 0) (vp_nar .boolean 1))))), (a3, .inl (C 0, 600, .inl ((upd f3 (Int32.toNatClampNeg 0) (-1)))))]) [0, 1, 2, 3, 4] rfl
  have hD9 := hD.sub (ws' := [(h0, .inr (3, [.ref a0, .ref a1, .ref a2, .ref a3, .ref a4, .ref a5, .ref a6, .int 1, .ref a7, .ref a8, .ref a9, .ref a10, .ref a11, .int 0])), (a0, .inl (C 0, 600, .inl ((upd f0 (Int32.toNatClampNeg 0) kd)))), (a1, .inl (C 0, 600, .inl ((upd f1 (Int32.toNatClampNeg 0) pa)))), (a2, .inl (C 1, 600, .inl ((upd f2 (Int32.toNatClampNeg 0) (vp_nar .boolean 1))))), (a3, .inl (C 0, 600, .inl ((upd f3 (Int32.toNatClampNeg 0) (-1)))))]) [0, 1, 2, 3, 4] (by decide) rfl
  refine W.widen (k := 0) (n := 0) (by decide) (by decide) ?_
  exact W.iret (v := (-2)) hx hb hr (fun t ht1 hW => ⟨⟨(-2), (xA [], xF [(upd f0 (Int32.toNatClampNeg 0) kd), (upd f1 (Int32.toNatClampNeg 0) pa), (upd f2 (Int32.toNatClampNeg 0) (vp_nar .boolean 1)), (upd f3 (Int32.toNatClampNeg 0) (-1))]), rfl, ⟨rfl, x_u0 (f := f3) (x := -1)⟩, by rw [ht1]; exact hP9, hD9⟩, hS.F ht1⟩) hS.2.2 dX3_add_73
set_option maxHeartbeats 4000000 in
set_option maxRecDepth 100000 in
theorem k3_addOrdinary (l : Launch) (D : va_G) (C : Nat → ClassId) (b0 sz : Nat) (h0 : Nat) (a0 : Nat) (a1 : Nat) (a2 : Nat) (a3 : Nat) (a4 : Nat) (a5 : Nat) (a6 : Nat) (a7 : Nat) (a8 : Nat) (a9 : Nat) (a10 : Nat) (a11 : Nat) (f0 : Nat → Int32) (f1 : Nat → Int32) (f2 : Nat → Int32) (f3 : Nat → Int32) (pa : Int32) : Met l yX3_addOrdinary (xw yX3_addOrdinary cX3_addOrdinary 2 (some .int)) ({ frames := 16, cells := 0, slots := 0, locals := 300 }) (xPc D C b0 [.ref h0, .int pa] [(h0, .inr (3, [.ref a0, .ref a1, .ref a2, .ref a3, .ref a4, .ref a5, .ref a6, .int 0, .ref a7, .ref a8, .ref a9, .ref a10, .ref a11, .int 0])), (a0, .inl (C 0, 600, .inl f0)), (a1, .inl (C 0, 600, .inl f1)), (a2, .inl (C 1, 600, .inl f2)), (a3, .inl (C 0, 600, .inl f3))] sz) (va_Qi (fun (r : Int32) (u : xS) => r = -2) (xBw D (va_A [(h0, .inr (3, [.ref a0, .ref a1, .ref a2, .ref a3, .ref a4, .ref a5, .ref a6, .int 0, .ref a7, .ref a8, .ref a9, .ref a10, .ref a11, .int 0])), (a0, .inl (C 0, 600, .inl f0)), (a1, .inl (C 0, 600, .inl f1)), (a2, .inl (C 1, 600, .inl f2)), (a3, .inl (C 0, 600, .inl f3))] sz) (fun u => [])) (va_A [(h0, .inr (3, [.ref a0, .ref a1, .ref a2, .ref a3, .ref a4, .ref a5, .ref a6, .int 0, .ref a7, .ref a8, .ref a9, .ref a10, .ref a11, .int 0])), (a0, .inl (C 0, 600, .inl f0)), (a1, .inl (C 0, 600, .inl f1)), (a2, .inl (C 1, 600, .inl f2)), (a3, .inl (C 0, 600, .inl f3))] sz)) 0 0 (va_A [(h0, .inr (3, [.ref a0, .ref a1, .ref a2, .ref a3, .ref a4, .ref a5, .ref a6, .int 0, .ref a7, .ref a8, .ref a9, .ref a10, .ref a11, .int 0])), (a0, .inl (C 0, 600, .inl f0)), (a1, .inl (C 0, 600, .inl f1)), (a2, .inl (C 1, 600, .inl f2)), (a3, .inl (C 0, 600, .inl f3))] sz) := by
  refine Met.ofW (cc := cX3_addOrdinary) (maxL := 2) (ret := (some .int)) (by decide) rfl ?_
  intro p e s m args below meth c s₁ B hml hv
  obtain ⟨rfl, hsz, hP, hK, hD0, hE⟩ := hv
  have hx := B.exec
  have hb := B.bytes
  have hr := B.returns
  have ht : ∀ w ∈ xb, w.before _ s = true := fun w h => atoms_spec (ws := xw yX3_addOrdinary cX3_addOrdinary 2 (some .int)) B.pre w (List.mem_cons_of_mem _ h)
  have hown : s.vm.findClass RX3 = some m.cls := findClass_of_methodNamed B.named
  have hlocks := B.notSynchronized
  subst hsz
  have hAb := x_Ab hD0 hE.1
  have hD := hD0.self (sz := s.heap.size)
  generalize hAe : va_A [(h0, .inr (3, [.ref a0, .ref a1, .ref a2, .ref a3, .ref a4, .ref a5, .ref a6, .int 0, .ref a7, .ref a8, .ref a9, .ref a10, .ref a11, .int 0])), (a0, .inl (C 0, 600, .inl f0)), (a1, .inl (C 0, 600, .inl f1)), (a2, .inl (C 1, 600, .inl f2)), (a3, .inl (C 0, 600, .inl f3))] s.heap.size = A at hD hAb ⊢
  have hA : ∀ q : Nat, s.heap.size ≤ q → A q := fun q h => by rw [← hAe]; exact Or.inr h
  have hS : va_S A s.heap s.heap [] := va_S.rf
  have hP : va_P D vwCl [(h0, .inr (3, [.ref a0, .ref a1, .ref a2, .ref a3, .ref a4, .ref a5, .ref a6, .int 0, .ref a7, .ref a8, .ref a9, .ref a10, .ref a11, .int 0])), (a0, .inl (C 0, 600, .inl f0)), (a1, .inl (C 0, 600, .inl f1)), (a2, .inl (C 1, 600, .inl f2)), (a3, .inl (C 0, 600, .inl f3))] s.heap := hP
  have hl := lv_entry ([.ref h0, .int pa]) (n := 2) (Nat.le_of_ble_eq_true rfl)
  rw [lg_entry_eq]
  generalize (lg_sl ([.ref h0, .int pa]) ++ List.replicate (2 - (lg_sl ([.ref h0, .int pa])).length) Slot.unset).toArray = ls at hl ⊢
  have hl : lv_has ls 2 [(0, .ref h0), (1, .int pa)] := hl
  refine lv_aload_n hx hb dX3_addOrdinary_0 rfl (lv_at hl 0 rfl) ?_
  refine lv_iconst (v := 1) hx hb dX3_addOrdinary_1 (by decide) ?_
  refine lv_iload_n hx hb dX3_addOrdinary_2 rfl (lv_at hl 1 rfl) ?_
  have hPc := hP.sub (ws' := [(h0, .inr (3, [.ref a0, .ref a1, .ref a2, .ref a3, .ref a4, .ref a5, .ref a6, .int 0, .ref a7, .ref a8, .ref a9, .ref a10, .ref a11, .int 0])), (a0, .inl (C 0, 600, .inl f0)), (a1, .inl (C 0, 600, .inl f1)), (a2, .inl (C 1, 600, .inl f2)), (a3, .inl (C 0, 600, .inl f3))]) [0, 1, 2, 3, 4] rfl
  have hDc := hD.sub (ws' := [(h0, .inr (3, [.ref a0, .ref a1, .ref a2, .ref a3, .ref a4, .ref a5, .ref a6, .int 0, .ref a7, .ref a8, .ref a9, .ref a10, .ref a11, .int 0])), (a0, .inl (C 0, 600, .inl f0)), (a1, .inl (C 0, 600, .inl f1)), (a2, .inl (C 1, 600, .inl f2)), (a3, .inl (C 0, 600, .inl f3))]) [0, 1, 2, 3, 4] (by decide) rfl
  have hFc := va_free (wc := [(h0, .inr (3, [.ref a0, .ref a1, .ref a2, .ref a3, .ref a4, .ref a5, .ref a6, .int 0, .ref a7, .ref a8, .ref a9, .ref a10, .ref a11, .int 0])), (a0, .inl (C 0, 600, .inl f0)), (a1, .inl (C 0, 600, .inl f1)), (a2, .inl (C 1, 600, .inl f2)), (a3, .inl (C 0, 600, .inl f3))]) hD hS hA [0, 1, 2, 3, 4] rfl
  refine va_calli (va_runV (As := [.int 1, .int pa]) (rest := []) ⟨hx, hb, hml, hown, ht⟩ (k3_add l D C b0 s.heap.size h0 a0 a1 a2 a3 a4 a5 a6 a7 a8 a9 a10 a11 f0 f1 f2 f3 1 pa) (cwV 2 ht (xg_V m_286 m_287 m_288 m_258 m_167) rfl rfl rfl (by decide +kernel) ⟨Nat.le_of_ble_eq_true rfl, Nat.le_of_ble_eq_true rfl⟩) ⟨xPc_bl, va_recv hK hPc (ci := 3) (q0 := 0) rfl rfl, xPc_at hPc hK hDc hE hS hAb⟩ rfl rfl hl.1 rfl (lv_room (Nat.le_of_ble_eq_true rfl)) dX3_addOrdinary_3 ⟨(by decide), (by decide)⟩) hS (fun q _ h => hFc q h) hFc (fun r_1 u_2 t H1 locs ht1 hvm hw hB hz1 hk1 hS => ?_)
  obtain ⟨hP1, hD1⟩ := hB
  rw [ht1] at hP1
  try dsimp only at hw
  obtain ⟨hP, hD⟩ := va_join (wr := []) (w1 := [(h0, .inr (3, [.ref a0, .ref a1, .ref a2, .ref a3, .ref a4, .ref a5, .ref a6, .int 1, .ref a7, .ref a8, .ref a9, .ref a10, .ref a11, .int 0])), (a0, .inl (C 0, 600, .inl (u_2.2 0))), (a1, .inl (C 0, 600, .inl (u_2.2 1))), (a2, .inl (C 1, 600, .inl (u_2.2 2))), (a3, .inl (C 0, 600, .inl (u_2.2 3)))]) hP hD [0, 1, 2, 3, 4] [] rfl rfl (by decide) (by decide) hk1 hFc hP1 hD1
  generalize H1 = H at hP hS ⊢
  have hP : va_P D vwCl [(h0, .inr (3, [.ref a0, .ref a1, .ref a2, .ref a3, .ref a4, .ref a5, .ref a6, .int 1, .ref a7, .ref a8, .ref a9, .ref a10, .ref a11, .int 0])), (a0, .inl (C 0, 600, .inl (u_2.2 0))), (a1, .inl (C 0, 600, .inl (u_2.2 1))), (a2, .inl (C 1, 600, .inl (u_2.2 2))), (a3, .inl (C 0, 600, .inl (u_2.2 3)))] H := hP
  have hD : va_D A [(h0, .inr (3, [.ref a0, .ref a1, .ref a2, .ref a3, .ref a4, .ref a5, .ref a6, .int 1, .ref a7, .ref a8, .ref a9, .ref a10, .ref a11, .int 0])), (a0, .inl (C 0, 600, .inl (u_2.2 0))), (a1, .inl (C 0, 600, .inl (u_2.2 1))), (a2, .inl (C 1, 600, .inl (u_2.2 2))), (a3, .inl (C 0, 600, .inl (u_2.2 3)))] := hD
  have hq_3 := hw
  obtain rfl : r_1 = (-2 : Int32) := hw.1
  have hP9 := hP.sub (ws' := []) [] rfl
  have hD9 := hD.sub (ws' := []) [] (by decide) rfl
  refine W.widen (k := 0) (n := 0) (by decide) (by decide) ?_
  exact W.iret (v := (-2)) hx hb hr (fun t ht1 hW => ⟨⟨(-2), (xA [], xF []), rfl, by first | trivial | rfl | assumption | decide | (simp_all; done), by rw [ht1]; exact hP9, hD9⟩, hS.F ht1⟩) hS.2.2 dX3_addOrdinary_6
set_option maxHeartbeats 4000000 in
set_option maxRecDepth 100000 in
theorem k3_firstSlotOf (l : Launch) (D : va_G) (C : Nat → ClassId) (b0 sz : Nat) (h0 : Nat) (a0 : Nat) (a1 : Nat) (a2 : Nat) (a3 : Nat) (a4 : Nat) (a5 : Nat) (a6 : Nat) (a7 : Nat) (a8 : Nat) (a9 : Nat) (a10 : Nat) (a11 : Nat) (f3 : Nat → Int32) (ff : Int32) (h3 : f3 0 = -1) : Met l yX3_firstSlotOf (xw yX3_firstSlotOf cX3_firstSlotOf 3 (some .int)) ({ frames := 16, cells := 0, slots := 0, locals := 300 }) (xPc D C b0 [.ref h0, .int (-2)] [(h0, .inr (3, [.ref a0, .ref a1, .ref a2, .ref a3, .ref a4, .ref a5, .ref a6, .int 1, .ref a7, .ref a8, .ref a9, .ref a10, .ref a11, .int ff])), (a3, .inl (C 0, 600, .inl f3))] sz) (va_Qi (fun (r : Int32) (u : xS) => r = -1) (xBw D (va_A [(h0, .inr (3, [.ref a0, .ref a1, .ref a2, .ref a3, .ref a4, .ref a5, .ref a6, .int 1, .ref a7, .ref a8, .ref a9, .ref a10, .ref a11, .int ff])), (a3, .inl (C 0, 600, .inl f3))] sz) (fun u => [(h0, .inr (3, [.ref a0, .ref a1, .ref a2, .ref a3, .ref a4, .ref a5, .ref a6, .int 1, .ref a7, .ref a8, .ref a9, .ref a10, .ref a11, .int ff])), (a3, .inl (C 0, 600, .inl f3))])) (va_A [(h0, .inr (3, [.ref a0, .ref a1, .ref a2, .ref a3, .ref a4, .ref a5, .ref a6, .int 1, .ref a7, .ref a8, .ref a9, .ref a10, .ref a11, .int ff])), (a3, .inl (C 0, 600, .inl f3))] sz)) 0 0 (va_A [(h0, .inr (3, [.ref a0, .ref a1, .ref a2, .ref a3, .ref a4, .ref a5, .ref a6, .int 1, .ref a7, .ref a8, .ref a9, .ref a10, .ref a11, .int ff])), (a3, .inl (C 0, 600, .inl f3))] sz) := by
  refine Met.ofW (cc := cX3_firstSlotOf) (maxL := 3) (ret := (some .int)) (by decide) rfl ?_
  intro p e s m args below meth c s₁ B hml hv
  obtain ⟨rfl, hsz, hP, hK, hD0, hE⟩ := hv
  have hx := B.exec
  have hb := B.bytes
  have hr := B.returns
  have ht : ∀ w ∈ xb, w.before _ s = true := fun w h => atoms_spec (ws := xw yX3_firstSlotOf cX3_firstSlotOf 3 (some .int)) B.pre w (List.mem_cons_of_mem _ h)
  have hown : s.vm.findClass RX3 = some m.cls := findClass_of_methodNamed B.named
  have hlocks := B.notSynchronized
  subst hsz
  have hAb := x_Ab hD0 hE.1
  have hD := hD0.self (sz := s.heap.size)
  generalize hAe : va_A [(h0, .inr (3, [.ref a0, .ref a1, .ref a2, .ref a3, .ref a4, .ref a5, .ref a6, .int 1, .ref a7, .ref a8, .ref a9, .ref a10, .ref a11, .int ff])), (a3, .inl (C 0, 600, .inl f3))] s.heap.size = A at hD hAb ⊢
  have hA : ∀ q : Nat, s.heap.size ≤ q → A q := fun q h => by rw [← hAe]; exact Or.inr h
  have hS : va_S A s.heap s.heap [] := va_S.rf
  have hP : va_P D vwCl [(h0, .inr (3, [.ref a0, .ref a1, .ref a2, .ref a3, .ref a4, .ref a5, .ref a6, .int 1, .ref a7, .ref a8, .ref a9, .ref a10, .ref a11, .int ff])), (a3, .inl (C 0, 600, .inl f3))] s.heap := hP
  have hl := lv_entry ([.ref h0, .int (-2)]) (n := 3) (Nat.le_of_ble_eq_true rfl)
  rw [lg_entry_eq]
  generalize (lg_sl ([.ref h0, .int (-2)]) ++ List.replicate (3 - (lg_sl ([.ref h0, .int (-2)])).length) Slot.unset).toArray = ls at hl ⊢
  have hl : lv_has ls 3 [(0, .ref h0), (1, .int (-2))] := hl
  refine lv_aload_n hx hb dX3_firstSlotOf_0 rfl (lv_at hl 0 rfl) ?_
  refine lv_iload_n hx hb dX3_firstSlotOf_1 rfl (lv_at hl 1 rfl) ?_
  have hPc := hP.sub (ws' := [(h0, .inr (3, [.ref a0, .ref a1, .ref a2, .ref a3, .ref a4, .ref a5, .ref a6, .int 1, .ref a7, .ref a8, .ref a9, .ref a10, .ref a11, .int ff]))]) [0] rfl
  have hDc := hD.sub (ws' := [(h0, .inr (3, [.ref a0, .ref a1, .ref a2, .ref a3, .ref a4, .ref a5, .ref a6, .int 1, .ref a7, .ref a8, .ref a9, .ref a10, .ref a11, .int ff]))]) [0] (by decide) rfl
  have hFc := va_free (wc := [(h0, .inr (3, [.ref a0, .ref a1, .ref a2, .ref a3, .ref a4, .ref a5, .ref a6, .int 1, .ref a7, .ref a8, .ref a9, .ref a10, .ref a11, .int ff]))]) hD hS hA [0] rfl
  refine va_calli (va_runV (As := [.int (-2)]) (rest := []) ⟨hx, hb, hml, hown, ht⟩ (k3_rowOf1 l D C b0 s.heap.size h0 a0 a1 a2 a3 a4 a5 a6 a7 a8 a9 a10 a11 ff) (cwV 1 ht (xg_V m_255 m_256 m_257 m_258 m_157) rfl rfl rfl (by decide +kernel) ⟨Nat.le_of_ble_eq_true rfl, Nat.le_of_ble_eq_true rfl⟩) ⟨xPc_bl, va_recv hK hPc (ci := 3) (q0 := 0) rfl rfl, xPc_at hPc hK hDc hE hS hAb⟩ rfl rfl hl.1 rfl (lv_room (Nat.le_of_ble_eq_true rfl)) dX3_firstSlotOf_2 ⟨(by decide), (by decide)⟩) hS (fun q _ h => hFc q h) hFc (fun r_1 u_2 t H1 locs ht1 hvm hw hB hz1 hk1 hS => ?_)
  obtain ⟨hP1, hD1⟩ := hB
  rw [ht1] at hP1
  try dsimp only at hw
  obtain ⟨hP, hD⟩ := va_join (wr := [(a3, .inl (C 0, 600, .inl f3))]) (w1 := [(h0, .inr (3, [.ref a0, .ref a1, .ref a2, .ref a3, .ref a4, .ref a5, .ref a6, .int 1, .ref a7, .ref a8, .ref a9, .ref a10, .ref a11, .int ff]))]) hP hD [0] [1] rfl rfl (by decide) (by decide) hk1 hFc hP1 hD1
  generalize H1 = H at hP hS ⊢
  have hP : va_P D vwCl [(a3, .inl (C 0, 600, .inl f3)), (h0, .inr (3, [.ref a0, .ref a1, .ref a2, .ref a3, .ref a4, .ref a5, .ref a6, .int 1, .ref a7, .ref a8, .ref a9, .ref a10, .ref a11, .int ff]))] H := hP
  have hD : va_D A [(a3, .inl (C 0, 600, .inl f3)), (h0, .inr (3, [.ref a0, .ref a1, .ref a2, .ref a3, .ref a4, .ref a5, .ref a6, .int 1, .ref a7, .ref a8, .ref a9, .ref a10, .ref a11, .int ff]))] := hD
  have hq_2 := hw
  obtain rfl : r_1 = (0 : Int32) := hw
  refine lv_istore_n (lv' := [(2, .int 0), (0, .ref h0), (1, .int (-2))]) hx hb dX3_firstSlotOf_5 rfl hl (by decide) rfl (fun ls hl => ?_)
  refine lv_iload_n hx hb dX3_firstSlotOf_6 rfl (lv_at hl 0 rfl) ?_
  refine lv_if_lt (tgt := 19) hx hb dX3_firstSlotOf_7 (by decide) (fun c_7 => ?_) (fun c_7 => ?_)
  · exact absurd c_7 (by decide)
  refine lv_aload_n hx hb dX3_firstSlotOf_10 rfl (lv_at hl 1 rfl) ?_
  refine va_get (D := D) (ci := 3) (v := .ref a3) (C := RX3) (T := TX3) (N := 14) hx hb ht inX3 hown hK hP 1 rfl rfl 3 (by decide) (ht _ m_285) (fun _ h9 => h9) rfl dX3_firstSlotOf_11 ?_
  refine lv_iload_n hx hb dX3_firstSlotOf_14 rfl (lv_at hl 0 rfl) ?_
  refine va_iald hx hb hK hP 0 0 rfl rfl (by unfold vp_in; decide) dX3_firstSlotOf_15 ?_
  refine lv_topi (fun x_3 ex_3 => ?_)
  obtain rfl : x_3 = (-1 : Int32) := ex_3.trans (x_at0 h3)
  refine lv_goto (tgt := 20) hx hb dX3_firstSlotOf_16 (by decide) ?_
  have hP9 := hP.sub (ws' := [(h0, .inr (3, [.ref a0, .ref a1, .ref a2, .ref a3, .ref a4, .ref a5, .ref a6, .int 1, .ref a7, .ref a8, .ref a9, .ref a10, .ref a11, .int ff])), (a3, .inl (C 0, 600, .inl f3))]) [1, 0] rfl
  have hD9 := hD.sub (ws' := [(h0, .inr (3, [.ref a0, .ref a1, .ref a2, .ref a3, .ref a4, .ref a5, .ref a6, .int 1, .ref a7, .ref a8, .ref a9, .ref a10, .ref a11, .int ff])), (a3, .inl (C 0, 600, .inl f3))]) [1, 0] (by decide) rfl
  refine W.widen (k := 0) (n := 0) (by decide) (by decide) ?_
  exact W.iret (v := (-1)) hx hb hr (fun t ht1 hW => ⟨⟨(-1), (xA [], xF []), rfl, by first | trivial | rfl | assumption | decide | (simp_all; done), by rw [ht1]; exact hP9, hD9⟩, hS.F ht1⟩) hS.2.2 dX3_firstSlotOf_20
set_option maxHeartbeats 4000000 in
set_option maxRecDepth 100000 in
theorem k3_slotBefore (l : Launch) (D : va_G) (C : Nat → ClassId) (b0 sz : Nat) (h0 : Nat) (a0 : Nat) (a1 : Nat) (a2 : Nat) (a3 : Nat) (a4 : Nat) (a5 : Nat) (a6 : Nat) (a7 : Nat) (a8 : Nat) (a9 : Nat) (a10 : Nat) (a11 : Nat) (ff : Int32) (ky : Int32) : Met l yX3_slotBefore (xw yX3_slotBefore cX3_slotBefore 6 (some .int)) ({ frames := 8, cells := 0, slots := 0, locals := 150 }) (xPc D C b0 [.ref h0, .int (-1), .int ky] [(h0, .inr (3, [.ref a0, .ref a1, .ref a2, .ref a3, .ref a4, .ref a5, .ref a6, .int 1, .ref a7, .ref a8, .ref a9, .ref a10, .ref a11, .int ff]))] sz) (va_Qi (fun (r : Int32) (u : xS) => r = -1) (xBw D (va_A [(h0, .inr (3, [.ref a0, .ref a1, .ref a2, .ref a3, .ref a4, .ref a5, .ref a6, .int 1, .ref a7, .ref a8, .ref a9, .ref a10, .ref a11, .int ff]))] sz) (fun u => [(h0, .inr (3, [.ref a0, .ref a1, .ref a2, .ref a3, .ref a4, .ref a5, .ref a6, .int 1, .ref a7, .ref a8, .ref a9, .ref a10, .ref a11, .int ff]))])) (va_A [(h0, .inr (3, [.ref a0, .ref a1, .ref a2, .ref a3, .ref a4, .ref a5, .ref a6, .int 1, .ref a7, .ref a8, .ref a9, .ref a10, .ref a11, .int ff]))] sz)) 0 0 (va_A [(h0, .inr (3, [.ref a0, .ref a1, .ref a2, .ref a3, .ref a4, .ref a5, .ref a6, .int 1, .ref a7, .ref a8, .ref a9, .ref a10, .ref a11, .int ff]))] sz) := by
  refine Met.ofW (cc := cX3_slotBefore) (maxL := 6) (ret := (some .int)) (by decide) rfl ?_
  intro p e s m args below meth c s₁ B hml hv
  obtain ⟨rfl, hsz, hP, hK, hD0, hE⟩ := hv
  have hx := B.exec
  have hb := B.bytes
  have hr := B.returns
  have ht : ∀ w ∈ xb, w.before _ s = true := fun w h => atoms_spec (ws := xw yX3_slotBefore cX3_slotBefore 6 (some .int)) B.pre w (List.mem_cons_of_mem _ h)
  have hown : s.vm.findClass RX3 = some m.cls := findClass_of_methodNamed B.named
  have hlocks := B.notSynchronized
  subst hsz
  have hAb := x_Ab hD0 hE.1
  have hD := hD0.self (sz := s.heap.size)
  generalize hAe : va_A [(h0, .inr (3, [.ref a0, .ref a1, .ref a2, .ref a3, .ref a4, .ref a5, .ref a6, .int 1, .ref a7, .ref a8, .ref a9, .ref a10, .ref a11, .int ff]))] s.heap.size = A at hD hAb ⊢
  have hA : ∀ q : Nat, s.heap.size ≤ q → A q := fun q h => by rw [← hAe]; exact Or.inr h
  have hS : va_S A s.heap s.heap [] := va_S.rf
  have hP : va_P D vwCl [(h0, .inr (3, [.ref a0, .ref a1, .ref a2, .ref a3, .ref a4, .ref a5, .ref a6, .int 1, .ref a7, .ref a8, .ref a9, .ref a10, .ref a11, .int ff]))] s.heap := hP
  have hl := lv_entry ([.ref h0, .int (-1), .int ky]) (n := 6) (Nat.le_of_ble_eq_true rfl)
  rw [lg_entry_eq]
  generalize (lg_sl ([.ref h0, .int (-1), .int ky]) ++ List.replicate (6 - (lg_sl ([.ref h0, .int (-1), .int ky])).length) Slot.unset).toArray = ls at hl ⊢
  have hl : lv_has ls 6 [(0, .ref h0), (1, .int (-1)), (2, .int ky)] := hl
  refine lv_iconst (v := (-1)) hx hb dX3_slotBefore_0 (by decide) ?_
  refine lv_istore_n (lv' := [(3, .int (-1)), (0, .ref h0), (1, .int (-1)), (2, .int ky)]) hx hb dX3_slotBefore_1 rfl hl (by decide) rfl (fun ls hl => ?_)
  refine lv_iload_n hx hb dX3_slotBefore_2 rfl (lv_at hl 2 rfl) ?_
  refine lv_istore (lv' := [(4, .int (-1)), (3, .int (-1)), (0, .ref h0), (1, .int (-1)), (2, .int ky)]) hx hb dX3_slotBefore_3 hl (by decide) rfl (fun ls hl => ?_)
  refine lv_iconst (v := 0) hx hb dX3_slotBefore_5 (by decide) ?_
  refine lv_istore (lv' := [(5, .int 0), (4, .int (-1)), (3, .int (-1)), (0, .ref h0), (1, .int (-1)), (2, .int ky)]) hx hb dX3_slotBefore_6 hl (by decide) rfl (fun ls hl => ?_)
  refine lv_iload hx hb dX3_slotBefore_8 (lv_at hl 0 rfl) ?_
  refine lv_sipush (v := 250) hx hb dX3_slotBefore_10 (by decide) ?_
  refine lv_icmp_ge (tgt := 63) hx hb dX3_slotBefore_13 (by decide) (fun c_13 => ?_) (fun c_13 => ?_)
  · exact absurd c_13 (by decide)
  refine lv_iload hx hb dX3_slotBefore_16 (lv_at hl 1 rfl) ?_
  refine lv_if_lt (tgt := 63) hx hb dX3_slotBefore_18 (by decide) (fun c_18 => ?_) (fun c_18 => ?_)
  rotate_left
  · exact absurd c_18 (by decide)
  refine lv_iload_n hx hb dX3_slotBefore_63 rfl (lv_at hl 2 rfl) ?_
  have hP9 := hP.sub (ws' := [(h0, .inr (3, [.ref a0, .ref a1, .ref a2, .ref a3, .ref a4, .ref a5, .ref a6, .int 1, .ref a7, .ref a8, .ref a9, .ref a10, .ref a11, .int ff]))]) [0] rfl
  have hD9 := hD.sub (ws' := [(h0, .inr (3, [.ref a0, .ref a1, .ref a2, .ref a3, .ref a4, .ref a5, .ref a6, .int 1, .ref a7, .ref a8, .ref a9, .ref a10, .ref a11, .int ff]))]) [0] (by decide) rfl
  refine W.widen (k := 0) (n := 0) (by decide) (by decide) ?_
  exact W.iret (v := (-1)) hx hb hr (fun t ht1 hW => ⟨⟨(-1), (xA [], xF []), rfl, by first | trivial | rfl | assumption | decide | (simp_all; done), by rw [ht1]; exact hP9, hD9⟩, hS.F ht1⟩) hS.2.2 dX3_slotBefore_64
set_option maxHeartbeats 4000000 in
set_option maxRecDepth 100000 in
theorem k3_link (l : Launch) (D : va_G) (C : Nat → ClassId) (b0 sz : Nat) (h0 : Nat) (a0 : Nat) (a1 : Nat) (a2 : Nat) (a3 : Nat) (a4 : Nat) (a5 : Nat) (a6 : Nat) (a7 : Nat) (a8 : Nat) (a9 : Nat) (a10 : Nat) (a11 : Nat) (f3 : Nat → Int32) (ff : Int32) : Met l yX3_link (xw yX3_link cX3_link 5 none) ({ frames := 16, cells := 0, slots := 0, locals := 300 }) (xPc D C b0 [.ref h0, .int (-2), .int (-1), .int 0] [(h0, .inr (3, [.ref a0, .ref a1, .ref a2, .ref a3, .ref a4, .ref a5, .ref a6, .int 1, .ref a7, .ref a8, .ref a9, .ref a10, .ref a11, .int ff])), (a3, .inl (C 0, 600, .inl f3))] sz) (va_Qv (fun u : xS => True) (xBw D (va_A [(h0, .inr (3, [.ref a0, .ref a1, .ref a2, .ref a3, .ref a4, .ref a5, .ref a6, .int 1, .ref a7, .ref a8, .ref a9, .ref a10, .ref a11, .int ff])), (a3, .inl (C 0, 600, .inl f3))] sz) (fun u => [(h0, .inr (3, [.ref a0, .ref a1, .ref a2, .ref a3, .ref a4, .ref a5, .ref a6, .int 1, .ref a7, .ref a8, .ref a9, .ref a10, .ref a11, .int ff])), (a3, .inl (C 0, 600, .inl (u.2 0)))])) (va_A [(h0, .inr (3, [.ref a0, .ref a1, .ref a2, .ref a3, .ref a4, .ref a5, .ref a6, .int 1, .ref a7, .ref a8, .ref a9, .ref a10, .ref a11, .int ff])), (a3, .inl (C 0, 600, .inl f3))] sz)) 0 0 (va_A [(h0, .inr (3, [.ref a0, .ref a1, .ref a2, .ref a3, .ref a4, .ref a5, .ref a6, .int 1, .ref a7, .ref a8, .ref a9, .ref a10, .ref a11, .int ff])), (a3, .inl (C 0, 600, .inl f3))] sz) := by
  refine Met.ofW (cc := cX3_link) (maxL := 5) (ret := none) (by decide) rfl ?_
  intro p e s m args below meth c s₁ B hml hv
  obtain ⟨rfl, hsz, hP, hK, hD0, hE⟩ := hv
  have hx := B.exec
  have hb := B.bytes
  have hr := B.returns
  have ht : ∀ w ∈ xb, w.before _ s = true := fun w h => atoms_spec (ws := xw yX3_link cX3_link 5 none) B.pre w (List.mem_cons_of_mem _ h)
  have hown : s.vm.findClass RX3 = some m.cls := findClass_of_methodNamed B.named
  have hlocks := B.notSynchronized
  subst hsz
  have hAb := x_Ab hD0 hE.1
  have hD := hD0.self (sz := s.heap.size)
  generalize hAe : va_A [(h0, .inr (3, [.ref a0, .ref a1, .ref a2, .ref a3, .ref a4, .ref a5, .ref a6, .int 1, .ref a7, .ref a8, .ref a9, .ref a10, .ref a11, .int ff])), (a3, .inl (C 0, 600, .inl f3))] s.heap.size = A at hD hAb ⊢
  have hA : ∀ q : Nat, s.heap.size ≤ q → A q := fun q h => by rw [← hAe]; exact Or.inr h
  have hS : va_S A s.heap s.heap [] := va_S.rf
  have hP : va_P D vwCl [(h0, .inr (3, [.ref a0, .ref a1, .ref a2, .ref a3, .ref a4, .ref a5, .ref a6, .int 1, .ref a7, .ref a8, .ref a9, .ref a10, .ref a11, .int ff])), (a3, .inl (C 0, 600, .inl f3))] s.heap := hP
  have hl := lv_entry ([.ref h0, .int (-2), .int (-1), .int 0]) (n := 5) (Nat.le_of_ble_eq_true rfl)
  rw [lg_entry_eq]
  generalize (lg_sl ([.ref h0, .int (-2), .int (-1), .int 0]) ++ List.replicate (5 - (lg_sl ([.ref h0, .int (-2), .int (-1), .int 0])).length) Slot.unset).toArray = ls at hl ⊢
  have hl : lv_has ls 5 [(0, .ref h0), (1, .int (-2)), (2, .int (-1)), (3, .int 0)] := hl
  refine lv_aload_n hx hb dX3_link_0 rfl (lv_at hl 0 rfl) ?_
  refine lv_iload_n hx hb dX3_link_1 rfl (lv_at hl 1 rfl) ?_
  have hPc := hP.sub (ws' := [(h0, .inr (3, [.ref a0, .ref a1, .ref a2, .ref a3, .ref a4, .ref a5, .ref a6, .int 1, .ref a7, .ref a8, .ref a9, .ref a10, .ref a11, .int ff]))]) [0] rfl
  have hDc := hD.sub (ws' := [(h0, .inr (3, [.ref a0, .ref a1, .ref a2, .ref a3, .ref a4, .ref a5, .ref a6, .int 1, .ref a7, .ref a8, .ref a9, .ref a10, .ref a11, .int ff]))]) [0] (by decide) rfl
  have hFc := va_free (wc := [(h0, .inr (3, [.ref a0, .ref a1, .ref a2, .ref a3, .ref a4, .ref a5, .ref a6, .int 1, .ref a7, .ref a8, .ref a9, .ref a10, .ref a11, .int ff]))]) hD hS hA [0] rfl
  refine va_calli (va_runV (As := [.int (-2)]) (rest := []) ⟨hx, hb, hml, hown, ht⟩ (k3_rowOf1 l D C b0 s.heap.size h0 a0 a1 a2 a3 a4 a5 a6 a7 a8 a9 a10 a11 ff) (cwV 1 ht (xg_V m_255 m_256 m_257 m_258 m_157) rfl rfl rfl (by decide +kernel) ⟨Nat.le_of_ble_eq_true rfl, Nat.le_of_ble_eq_true rfl⟩) ⟨xPc_bl, va_recv hK hPc (ci := 3) (q0 := 0) rfl rfl, xPc_at hPc hK hDc hE hS hAb⟩ rfl rfl hl.1 rfl (lv_room (Nat.le_of_ble_eq_true rfl)) dX3_link_2 ⟨(by decide), (by decide)⟩) hS (fun q _ h => hFc q h) hFc (fun r_1 u_2 t H1 locs ht1 hvm hw hB hz1 hk1 hS => ?_)
  obtain ⟨hP1, hD1⟩ := hB
  rw [ht1] at hP1
  try dsimp only at hw
  obtain ⟨hP, hD⟩ := va_join (wr := [(a3, .inl (C 0, 600, .inl f3))]) (w1 := [(h0, .inr (3, [.ref a0, .ref a1, .ref a2, .ref a3, .ref a4, .ref a5, .ref a6, .int 1, .ref a7, .ref a8, .ref a9, .ref a10, .ref a11, .int ff]))]) hP hD [0] [1] rfl rfl (by decide) (by decide) hk1 hFc hP1 hD1
  generalize H1 = H at hP hS ⊢
  have hP : va_P D vwCl [(a3, .inl (C 0, 600, .inl f3)), (h0, .inr (3, [.ref a0, .ref a1, .ref a2, .ref a3, .ref a4, .ref a5, .ref a6, .int 1, .ref a7, .ref a8, .ref a9, .ref a10, .ref a11, .int ff]))] H := hP
  have hD : va_D A [(a3, .inl (C 0, 600, .inl f3)), (h0, .inr (3, [.ref a0, .ref a1, .ref a2, .ref a3, .ref a4, .ref a5, .ref a6, .int 1, .ref a7, .ref a8, .ref a9, .ref a10, .ref a11, .int ff]))] := hD
  have hq_2 := hw
  obtain rfl : r_1 = (0 : Int32) := hw
  refine lv_istore (lv' := [(4, .int 0), (0, .ref h0), (1, .int (-2)), (2, .int (-1)), (3, .int 0)]) hx hb dX3_link_5 hl (by decide) rfl (fun ls hl => ?_)
  refine lv_aload_n hx hb dX3_link_7 rfl (lv_at hl 1 rfl) ?_
  refine lv_iload_n hx hb dX3_link_8 rfl (lv_at hl 3 rfl) ?_
  have hPc := hP.sub (ws' := [(h0, .inr (3, [.ref a0, .ref a1, .ref a2, .ref a3, .ref a4, .ref a5, .ref a6, .int 1, .ref a7, .ref a8, .ref a9, .ref a10, .ref a11, .int ff]))]) [1] rfl
  have hDc := hD.sub (ws' := [(h0, .inr (3, [.ref a0, .ref a1, .ref a2, .ref a3, .ref a4, .ref a5, .ref a6, .int 1, .ref a7, .ref a8, .ref a9, .ref a10, .ref a11, .int ff]))]) [1] (by decide) rfl
  have hFc := va_free (wc := [(h0, .inr (3, [.ref a0, .ref a1, .ref a2, .ref a3, .ref a4, .ref a5, .ref a6, .int 1, .ref a7, .ref a8, .ref a9, .ref a10, .ref a11, .int ff]))]) hD hS hA [1] rfl
  refine va_calli (va_runV (As := [.int (-1)]) (rest := []) ⟨hx, hb, hml, hown, ht⟩ (k3_isSlotN l D C b0 H.size h0 a0 a1 a2 a3 a4 a5 a6 a7 a8 a9 a10 a11 ff) (cwV 1 ht (xg_V m_289 m_290 m_291 m_258 m_166) rfl rfl rfl (by decide +kernel) ⟨Nat.le_of_ble_eq_true rfl, Nat.le_of_ble_eq_true rfl⟩) ⟨xPc_bl, va_recv hK hPc (ci := 3) (q0 := 0) rfl rfl, xPc_at hPc hK hDc hE hS hAb⟩ rfl rfl hl.1 rfl (lv_room (Nat.le_of_ble_eq_true rfl)) dX3_link_9 ⟨(by decide), (by decide)⟩) hS (fun q _ h => hFc q h) hFc (fun r_3 u_4 t H1 locs ht1 hvm hw hB hz1 hk1 hS => ?_)
  obtain ⟨hP1, hD1⟩ := hB
  rw [ht1] at hP1
  try dsimp only at hw
  obtain ⟨hP, hD⟩ := va_join (wr := [(a3, .inl (C 0, 600, .inl f3))]) (w1 := [(h0, .inr (3, [.ref a0, .ref a1, .ref a2, .ref a3, .ref a4, .ref a5, .ref a6, .int 1, .ref a7, .ref a8, .ref a9, .ref a10, .ref a11, .int ff]))]) hP hD [1] [0] rfl rfl (by decide) (by decide) hk1 hFc hP1 hD1
  generalize H1 = H at hP hS ⊢
  have hP : va_P D vwCl [(a3, .inl (C 0, 600, .inl f3)), (h0, .inr (3, [.ref a0, .ref a1, .ref a2, .ref a3, .ref a4, .ref a5, .ref a6, .int 1, .ref a7, .ref a8, .ref a9, .ref a10, .ref a11, .int ff]))] H := hP
  have hD : va_D A [(a3, .inl (C 0, 600, .inl f3)), (h0, .inr (3, [.ref a0, .ref a1, .ref a2, .ref a3, .ref a4, .ref a5, .ref a6, .int 1, .ref a7, .ref a8, .ref a9, .ref a10, .ref a11, .int ff]))] := hD
  have hq_9 := hw
  obtain rfl : r_3 = (0 : Int32) := hw
  refine lv_if_eq (tgt := 25) hx hb dX3_link_12 (by decide) (fun c_12 => ?_) (fun c_12 => ?_)
  rotate_left
  · exact absurd c_12 (by decide)
  refine lv_iload hx hb dX3_link_25 (lv_at hl 0 rfl) ?_
  refine lv_if_lt (tgt := 38) hx hb dX3_link_27 (by decide) (fun c_27 => ?_) (fun c_27 => ?_)
  · exact absurd c_27 (by decide)
  refine lv_aload_n hx hb dX3_link_30 rfl (lv_at hl 1 rfl) ?_
  refine va_get (D := D) (ci := 3) (v := .ref a3) (C := RX3) (T := TX3) (N := 14) hx hb ht inX3 hown hK hP 1 rfl rfl 3 (by decide) (ht _ m_285) (fun _ h9 => h9) rfl dX3_link_31 ?_
  refine lv_iload hx hb dX3_link_34 (lv_at hl 0 rfl) ?_
  refine lv_iload_n hx hb dX3_link_36 rfl (lv_at hl 4 rfl) ?_
  refine va_iast hx hb hK hP hD hS 0 0 rfl rfl (by unfold vp_in; decide) dX3_link_37 (fun H locs hP hD hS => ?_)
  have hP : va_P D vwCl [(a3, .inl (C 0, 600, .inl ((upd f3 (Int32.toNatClampNeg 0) 0)))), (h0, .inr (3, [.ref a0, .ref a1, .ref a2, .ref a3, .ref a4, .ref a5, .ref a6, .int 1, .ref a7, .ref a8, .ref a9, .ref a10, .ref a11, .int ff]))] H := hP
  have hD : va_D A [(a3, .inl (C 0, 600, .inl ((upd f3 (Int32.toNatClampNeg 0) 0)))), (h0, .inr (3, [.ref a0, .ref a1, .ref a2, .ref a3, .ref a4, .ref a5, .ref a6, .int 1, .ref a7, .ref a8, .ref a9, .ref a10, .ref a11, .int ff]))] := hD
  have hP9 := hP.sub (ws' := [(h0, .inr (3, [.ref a0, .ref a1, .ref a2, .ref a3, .ref a4, .ref a5, .ref a6, .int 1, .ref a7, .ref a8, .ref a9, .ref a10, .ref a11, .int ff])), (a3, .inl (C 0, 600, .inl ((upd f3 (Int32.toNatClampNeg 0) 0))))]) [1, 0] rfl
  have hD9 := hD.sub (ws' := [(h0, .inr (3, [.ref a0, .ref a1, .ref a2, .ref a3, .ref a4, .ref a5, .ref a6, .int 1, .ref a7, .ref a8, .ref a9, .ref a10, .ref a11, .int ff])), (a3, .inl (C 0, 600, .inl ((upd f3 (Int32.toNatClampNeg 0) 0))))]) [1, 0] (by decide) rfl
  refine W.widen (k := 0) (n := 0) (by decide) (by decide) ?_
  exact W.vret hx hb hr (fun t ht1 hW => ⟨⟨(xA [], xF [(upd f3 (Int32.toNatClampNeg 0) 0)]), rfl, by first | trivial | rfl | assumption | decide | (simp_all; done), by rw [ht1]; exact hP9, hD9⟩, hS.F ht1⟩) hS.2.2 dX3_link_38
set_option maxHeartbeats 4000000 in
set_option maxRecDepth 100000 in
theorem k3_append (l : Launch) (D : va_G) (C : Nat → ClassId) (b0 sz : Nat) (h0 : Nat) (a0 : Nat) (a1 : Nat) (a2 : Nat) (a3 : Nat) (a4 : Nat) (a5 : Nat) (a6 : Nat) (a7 : Nat) (a8 : Nat) (a9 : Nat) (a10 : Nat) (a11 : Nat) (f3 : Nat → Int32) (f7 : Nat → Int32) (f8 : Nat → Int32) (f9 : Nat → Int32) (f10 : Nat → Int32) (f11 : Nat → Int32) (ky : Int32) (h3 : f3 0 = -1) : Met l yX3_append (xw yX3_append cX3_append 6 (some .int)) ({ frames := 24, cells := 0, slots := 0, locals := 450 }) (xPc D C b0 [.ref h0, .int (-2), .int ky] [(h0, .inr (3, [.ref a0, .ref a1, .ref a2, .ref a3, .ref a4, .ref a5, .ref a6, .int 1, .ref a7, .ref a8, .ref a9, .ref a10, .ref a11, .int 0])), (a3, .inl (C 0, 600, .inl f3)), (a7, .inl (C 0, 5999, .inl f7)), (a8, .inl (C 0, 5999, .inl f8)), (a9, .inl (C 0, 5999, .inl f9)), (a10, .inl (C 0, 5999, .inl f10)), (a11, .inl (C 0, 5999, .inl f11))] sz) (va_Qi (fun (r : Int32) (u : xS) => r = 0) (xBw D (va_A [(h0, .inr (3, [.ref a0, .ref a1, .ref a2, .ref a3, .ref a4, .ref a5, .ref a6, .int 1, .ref a7, .ref a8, .ref a9, .ref a10, .ref a11, .int 0])), (a3, .inl (C 0, 600, .inl f3)), (a7, .inl (C 0, 5999, .inl f7)), (a8, .inl (C 0, 5999, .inl f8)), (a9, .inl (C 0, 5999, .inl f9)), (a10, .inl (C 0, 5999, .inl f10)), (a11, .inl (C 0, 5999, .inl f11))] sz) (fun u => [(h0, .inr (3, [.ref a0, .ref a1, .ref a2, .ref a3, .ref a4, .ref a5, .ref a6, .int 1, .ref a7, .ref a8, .ref a9, .ref a10, .ref a11, .int (u.2 6 0)])), (a3, .inl (C 0, 600, .inl (u.2 0))), (a7, .inl (C 0, 5999, .inl (u.2 1))), (a8, .inl (C 0, 5999, .inl (u.2 2))), (a9, .inl (C 0, 5999, .inl (u.2 3))), (a10, .inl (C 0, 5999, .inl (u.2 4))), (a11, .inl (C 0, 5999, .inl (u.2 5)))])) (va_A [(h0, .inr (3, [.ref a0, .ref a1, .ref a2, .ref a3, .ref a4, .ref a5, .ref a6, .int 1, .ref a7, .ref a8, .ref a9, .ref a10, .ref a11, .int 0])), (a3, .inl (C 0, 600, .inl f3)), (a7, .inl (C 0, 5999, .inl f7)), (a8, .inl (C 0, 5999, .inl f8)), (a9, .inl (C 0, 5999, .inl f9)), (a10, .inl (C 0, 5999, .inl f10)), (a11, .inl (C 0, 5999, .inl f11))] sz)) 0 0 (va_A [(h0, .inr (3, [.ref a0, .ref a1, .ref a2, .ref a3, .ref a4, .ref a5, .ref a6, .int 1, .ref a7, .ref a8, .ref a9, .ref a10, .ref a11, .int 0])), (a3, .inl (C 0, 600, .inl f3)), (a7, .inl (C 0, 5999, .inl f7)), (a8, .inl (C 0, 5999, .inl f8)), (a9, .inl (C 0, 5999, .inl f9)), (a10, .inl (C 0, 5999, .inl f10)), (a11, .inl (C 0, 5999, .inl f11))] sz) := by
  refine Met.ofW (cc := cX3_append) (maxL := 6) (ret := (some .int)) (by decide) rfl ?_
  intro p e s m args below meth c s₁ B hml hv
  obtain ⟨rfl, hsz, hP, hK, hD0, hE⟩ := hv
  have hx := B.exec
  have hb := B.bytes
  have hr := B.returns
  have ht : ∀ w ∈ xb, w.before _ s = true := fun w h => atoms_spec (ws := xw yX3_append cX3_append 6 (some .int)) B.pre w (List.mem_cons_of_mem _ h)
  have hown : s.vm.findClass RX3 = some m.cls := findClass_of_methodNamed B.named
  have hlocks := B.notSynchronized
  subst hsz
  have hAb := x_Ab hD0 hE.1
  have hD := hD0.self (sz := s.heap.size)
  generalize hAe : va_A [(h0, .inr (3, [.ref a0, .ref a1, .ref a2, .ref a3, .ref a4, .ref a5, .ref a6, .int 1, .ref a7, .ref a8, .ref a9, .ref a10, .ref a11, .int 0])), (a3, .inl (C 0, 600, .inl f3)), (a7, .inl (C 0, 5999, .inl f7)), (a8, .inl (C 0, 5999, .inl f8)), (a9, .inl (C 0, 5999, .inl f9)), (a10, .inl (C 0, 5999, .inl f10)), (a11, .inl (C 0, 5999, .inl f11))] s.heap.size = A at hD hAb ⊢
  have hA : ∀ q : Nat, s.heap.size ≤ q → A q := fun q h => by rw [← hAe]; exact Or.inr h
  have hS : va_S A s.heap s.heap [] := va_S.rf
  have hP : va_P D vwCl [(h0, .inr (3, [.ref a0, .ref a1, .ref a2, .ref a3, .ref a4, .ref a5, .ref a6, .int 1, .ref a7, .ref a8, .ref a9, .ref a10, .ref a11, .int 0])), (a3, .inl (C 0, 600, .inl f3)), (a7, .inl (C 0, 5999, .inl f7)), (a8, .inl (C 0, 5999, .inl f8)), (a9, .inl (C 0, 5999, .inl f9)), (a10, .inl (C 0, 5999, .inl f10)), (a11, .inl (C 0, 5999, .inl f11))] s.heap := hP
  have hl := lv_entry ([.ref h0, .int (-2), .int ky]) (n := 6) (Nat.le_of_ble_eq_true rfl)
  rw [lg_entry_eq]
  generalize (lg_sl ([.ref h0, .int (-2), .int ky]) ++ List.replicate (6 - (lg_sl ([.ref h0, .int (-2), .int ky])).length) Slot.unset).toArray = ls at hl ⊢
  have hl : lv_has ls 6 [(0, .ref h0), (1, .int (-2)), (2, .int ky)] := hl
  refine lv_aload_n hx hb dX3_append_0 rfl (lv_at hl 0 rfl) ?_
  refine va_get (D := D) (ci := 3) (v := .int 0) (C := RX3) (T := TX3) (N := 14) hx hb ht inX3 hown hK hP 0 rfl rfl 13 (by decide) (ht _ m_292) (fun _ h9 => h9) rfl dX3_append_1 ?_
  refine lv_istore_n (lv' := [(3, .int 0), (0, .ref h0), (1, .int (-2)), (2, .int ky)]) hx hb dX3_append_4 rfl hl (by decide) rfl (fun ls hl => ?_)
  refine lv_aload_n hx hb dX3_append_5 rfl (lv_at hl 1 rfl) ?_
  refine lv_iload_n hx hb dX3_append_6 rfl (lv_at hl 0 rfl) ?_
  have hPc := hP.sub (ws' := [(h0, .inr (3, [.ref a0, .ref a1, .ref a2, .ref a3, .ref a4, .ref a5, .ref a6, .int 1, .ref a7, .ref a8, .ref a9, .ref a10, .ref a11, .int 0]))]) [0] rfl
  have hDc := hD.sub (ws' := [(h0, .inr (3, [.ref a0, .ref a1, .ref a2, .ref a3, .ref a4, .ref a5, .ref a6, .int 1, .ref a7, .ref a8, .ref a9, .ref a10, .ref a11, .int 0]))]) [0] (by decide) rfl
  have hFc := va_free (wc := [(h0, .inr (3, [.ref a0, .ref a1, .ref a2, .ref a3, .ref a4, .ref a5, .ref a6, .int 1, .ref a7, .ref a8, .ref a9, .ref a10, .ref a11, .int 0]))]) hD hS hA [0] rfl
  refine va_calli (va_runV (As := [.int 0]) (rest := []) ⟨hx, hb, hml, hown, ht⟩ (k3_isSlot0 l D C b0 s.heap.size h0 a0 a1 a2 a3 a4 a5 a6 a7 a8 a9 a10 a11 0) (cwV 1 ht (xg_V m_289 m_290 m_291 m_258 m_166) rfl rfl rfl (by decide +kernel) ⟨Nat.le_of_ble_eq_true rfl, Nat.le_of_ble_eq_true rfl⟩) ⟨xPc_bl, va_recv hK hPc (ci := 3) (q0 := 0) rfl rfl, xPc_at hPc hK hDc hE hS hAb⟩ rfl rfl hl.1 rfl (lv_room (Nat.le_of_ble_eq_true rfl)) dX3_append_7 ⟨(by decide), (by decide)⟩) hS (fun q _ h => hFc q h) hFc (fun r_1 u_2 t H1 locs ht1 hvm hw hB hz1 hk1 hS => ?_)
  obtain ⟨hP1, hD1⟩ := hB
  rw [ht1] at hP1
  try dsimp only at hw
  obtain ⟨hP, hD⟩ := va_join (wr := [(a3, .inl (C 0, 600, .inl f3)), (a7, .inl (C 0, 5999, .inl f7)), (a8, .inl (C 0, 5999, .inl f8)), (a9, .inl (C 0, 5999, .inl f9)), (a10, .inl (C 0, 5999, .inl f10)), (a11, .inl (C 0, 5999, .inl f11))]) (w1 := [(h0, .inr (3, [.ref a0, .ref a1, .ref a2, .ref a3, .ref a4, .ref a5, .ref a6, .int 1, .ref a7, .ref a8, .ref a9, .ref a10, .ref a11, .int 0]))]) hP hD [0] [1, 2, 3, 4, 5, 6] rfl rfl (by decide) (by decide) hk1 hFc hP1 hD1
  generalize H1 = H at hP hS ⊢
  have hP : va_P D vwCl [(a3, .inl (C 0, 600, .inl f3)), (a7, .inl (C 0, 5999, .inl f7)), (a8, .inl (C 0, 5999, .inl f8)), (a9, .inl (C 0, 5999, .inl f9)), (a10, .inl (C 0, 5999, .inl f10)), (a11, .inl (C 0, 5999, .inl f11)), (h0, .inr (3, [.ref a0, .ref a1, .ref a2, .ref a3, .ref a4, .ref a5, .ref a6, .int 1, .ref a7, .ref a8, .ref a9, .ref a10, .ref a11, .int 0]))] H := hP
  have hD : va_D A [(a3, .inl (C 0, 600, .inl f3)), (a7, .inl (C 0, 5999, .inl f7)), (a8, .inl (C 0, 5999, .inl f8)), (a9, .inl (C 0, 5999, .inl f9)), (a10, .inl (C 0, 5999, .inl f10)), (a11, .inl (C 0, 5999, .inl f11)), (h0, .inr (3, [.ref a0, .ref a1, .ref a2, .ref a3, .ref a4, .ref a5, .ref a6, .int 1, .ref a7, .ref a8, .ref a9, .ref a10, .ref a11, .int 0]))] := hD
  have hq_7 := hw
  obtain rfl : r_1 = (1 : Int32) := hw
  refine lv_if_ne (tgt := 23) hx hb dX3_append_10 (by decide) (fun c_10 => ?_) (fun c_10 => ?_)
  rotate_left
  · exact absurd c_10 (by decide)
  refine lv_aload_n hx hb dX3_append_23 rfl (lv_at hl 1 rfl) ?_
  refine lv_aload_n hx hb dX3_append_24 rfl (lv_at hl 1 rfl) ?_
  refine va_get (D := D) (ci := 3) (v := .ref a11) (C := RX3) (T := TX3) (N := 14) hx hb ht inX3 hown hK hP 6 rfl rfl 12 (by decide) (ht _ m_293) (fun _ h9 => h9) rfl dX3_append_25 ?_
  refine lv_iload_n hx hb dX3_append_28 rfl (lv_at hl 0 rfl) ?_
  refine va_iald hx hb hK hP 5 0 rfl rfl (by unfold vp_in; decide) dX3_append_29 ?_
  refine lv_topi (fun x_3 ex_3 => ?_)
  refine va_put (D := D) (ci := 3) (v := .int x_3) (ty := tyX3 13) (C := RX3) (T := TX3) (N := 14) hx hb ht inX3 tyX3 tyX3_ok nmX3 hown hK hP hD hS 6 rfl rfl 13 (by decide) (ht _ m_292) (fun _ h9 => h9) rfl (by decide +kernel) rfl rfl (Nat.le_of_ble_eq_true rfl) dX3_append_30 (fun H locs hP hD hS => ?_)
  have hP : va_P D vwCl [(a3, .inl (C 0, 600, .inl f3)), (a7, .inl (C 0, 5999, .inl f7)), (a8, .inl (C 0, 5999, .inl f8)), (a9, .inl (C 0, 5999, .inl f9)), (a10, .inl (C 0, 5999, .inl f10)), (a11, .inl (C 0, 5999, .inl f11)), (h0, .inr (3, [.ref a0, .ref a1, .ref a2, .ref a3, .ref a4, .ref a5, .ref a6, .int 1, .ref a7, .ref a8, .ref a9, .ref a10, .ref a11, .int x_3]))] H := hP
  have hD : va_D A [(a3, .inl (C 0, 600, .inl f3)), (a7, .inl (C 0, 5999, .inl f7)), (a8, .inl (C 0, 5999, .inl f8)), (a9, .inl (C 0, 5999, .inl f9)), (a10, .inl (C 0, 5999, .inl f10)), (a11, .inl (C 0, 5999, .inl f11)), (h0, .inr (3, [.ref a0, .ref a1, .ref a2, .ref a3, .ref a4, .ref a5, .ref a6, .int 1, .ref a7, .ref a8, .ref a9, .ref a10, .ref a11, .int x_3]))] := hD
  refine lv_aload_n hx hb dX3_append_33 rfl (lv_at hl 1 rfl) ?_
  refine va_get (D := D) (ci := 3) (v := .ref a7) (C := RX3) (T := TX3) (N := 14) hx hb ht inX3 hown hK hP 6 rfl rfl 8 (by decide) (ht _ m_294) (fun _ h9 => h9) rfl dX3_append_34 ?_
  refine lv_iload_n hx hb dX3_append_37 rfl (lv_at hl 0 rfl) ?_
  refine lv_iload_n hx hb dX3_append_38 rfl (lv_at hl 3 rfl) ?_
  refine va_iast hx hb hK hP hD hS 1 0 rfl rfl (by unfold vp_in; decide) dX3_append_39 (fun H locs hP hD hS => ?_)
  have hP : va_P D vwCl [(a3, .inl (C 0, 600, .inl f3)), (a7, .inl (C 0, 5999, .inl ((upd f7 (Int32.toNatClampNeg 0) ky)))), (a8, .inl (C 0, 5999, .inl f8)), (a9, .inl (C 0, 5999, .inl f9)), (a10, .inl (C 0, 5999, .inl f10)), (a11, .inl (C 0, 5999, .inl f11)), (h0, .inr (3, [.ref a0, .ref a1, .ref a2, .ref a3, .ref a4, .ref a5, .ref a6, .int 1, .ref a7, .ref a8, .ref a9, .ref a10, .ref a11, .int x_3]))] H := hP
  have hD : va_D A [(a3, .inl (C 0, 600, .inl f3)), (a7, .inl (C 0, 5999, .inl ((upd f7 (Int32.toNatClampNeg 0) ky)))), (a8, .inl (C 0, 5999, .inl f8)), (a9, .inl (C 0, 5999, .inl f9)), (a10, .inl (C 0, 5999, .inl f10)), (a11, .inl (C 0, 5999, .inl f11)), (h0, .inr (3, [.ref a0, .ref a1, .ref a2, .ref a3, .ref a4, .ref a5, .ref a6, .int 1, .ref a7, .ref a8, .ref a9, .ref a10, .ref a11, .int x_3]))] := hD
  refine lv_aload_n hx hb dX3_append_40 rfl (lv_at hl 1 rfl) ?_
  refine va_get (D := D) (ci := 3) (v := .ref a8) (C := RX3) (T := TX3) (N := 14) hx hb ht inX3 hown hK hP 6 rfl rfl 9 (by decide) (ht _ m_295) (fun _ h9 => h9) rfl dX3_append_41 ?_
  refine lv_iload_n hx hb dX3_append_44 rfl (lv_at hl 0 rfl) ?_
  refine lv_iconst (v := (-1)) hx hb dX3_append_45 (by decide) ?_
  refine va_iast hx hb hK hP hD hS 2 0 rfl rfl (by unfold vp_in; decide) dX3_append_46 (fun H locs hP hD hS => ?_)
  have hP : va_P D vwCl [(a3, .inl (C 0, 600, .inl f3)), (a7, .inl (C 0, 5999, .inl ((upd f7 (Int32.toNatClampNeg 0) ky)))), (a8, .inl (C 0, 5999, .inl ((upd f8 (Int32.toNatClampNeg 0) (-1))))), (a9, .inl (C 0, 5999, .inl f9)), (a10, .inl (C 0, 5999, .inl f10)), (a11, .inl (C 0, 5999, .inl f11)), (h0, .inr (3, [.ref a0, .ref a1, .ref a2, .ref a3, .ref a4, .ref a5, .ref a6, .int 1, .ref a7, .ref a8, .ref a9, .ref a10, .ref a11, .int x_3]))] H := hP
  have hD : va_D A [(a3, .inl (C 0, 600, .inl f3)), (a7, .inl (C 0, 5999, .inl ((upd f7 (Int32.toNatClampNeg 0) ky)))), (a8, .inl (C 0, 5999, .inl ((upd f8 (Int32.toNatClampNeg 0) (-1))))), (a9, .inl (C 0, 5999, .inl f9)), (a10, .inl (C 0, 5999, .inl f10)), (a11, .inl (C 0, 5999, .inl f11)), (h0, .inr (3, [.ref a0, .ref a1, .ref a2, .ref a3, .ref a4, .ref a5, .ref a6, .int 1, .ref a7, .ref a8, .ref a9, .ref a10, .ref a11, .int x_3]))] := hD
  refine lv_aload_n hx hb dX3_append_47 rfl (lv_at hl 1 rfl) ?_
  refine va_get (D := D) (ci := 3) (v := .ref a9) (C := RX3) (T := TX3) (N := 14) hx hb ht inX3 hown hK hP 6 rfl rfl 10 (by decide) (ht _ m_296) (fun _ h9 => h9) rfl dX3_append_48 ?_
  refine lv_iload_n hx hb dX3_append_51 rfl (lv_at hl 0 rfl) ?_
  refine lv_iconst (v := (-1)) hx hb dX3_append_52 (by decide) ?_
  refine va_iast hx hb hK hP hD hS 3 0 rfl rfl (by unfold vp_in; decide) dX3_append_53 (fun H locs hP hD hS => ?_)
  have hP : va_P D vwCl [(a3, .inl (C 0, 600, .inl f3)), (a7, .inl (C 0, 5999, .inl ((upd f7 (Int32.toNatClampNeg 0) ky)))), (a8, .inl (C 0, 5999, .inl ((upd f8 (Int32.toNatClampNeg 0) (-1))))), (a9, .inl (C 0, 5999, .inl ((upd f9 (Int32.toNatClampNeg 0) (-1))))), (a10, .inl (C 0, 5999, .inl f10)), (a11, .inl (C 0, 5999, .inl f11)), (h0, .inr (3, [.ref a0, .ref a1, .ref a2, .ref a3, .ref a4, .ref a5, .ref a6, .int 1, .ref a7, .ref a8, .ref a9, .ref a10, .ref a11, .int x_3]))] H := hP
  have hD : va_D A [(a3, .inl (C 0, 600, .inl f3)), (a7, .inl (C 0, 5999, .inl ((upd f7 (Int32.toNatClampNeg 0) ky)))), (a8, .inl (C 0, 5999, .inl ((upd f8 (Int32.toNatClampNeg 0) (-1))))), (a9, .inl (C 0, 5999, .inl ((upd f9 (Int32.toNatClampNeg 0) (-1))))), (a10, .inl (C 0, 5999, .inl f10)), (a11, .inl (C 0, 5999, .inl f11)), (h0, .inr (3, [.ref a0, .ref a1, .ref a2, .ref a3, .ref a4, .ref a5, .ref a6, .int 1, .ref a7, .ref a8, .ref a9, .ref a10, .ref a11, .int x_3]))] := hD
  refine lv_aload_n hx hb dX3_append_54 rfl (lv_at hl 1 rfl) ?_
  refine va_get (D := D) (ci := 3) (v := .ref a10) (C := RX3) (T := TX3) (N := 14) hx hb ht inX3 hown hK hP 6 rfl rfl 11 (by decide) (ht _ m_297) (fun _ h9 => h9) rfl dX3_append_55 ?_
  refine lv_iload_n hx hb dX3_append_58 rfl (lv_at hl 0 rfl) ?_
  refine lv_iconst (v := 0) hx hb dX3_append_59 (by decide) ?_
  refine va_iast hx hb hK hP hD hS 4 0 rfl rfl (by unfold vp_in; decide) dX3_append_60 (fun H locs hP hD hS => ?_)
  have hP : va_P D vwCl [(a3, .inl (C 0, 600, .inl f3)), (a7, .inl (C 0, 5999, .inl ((upd f7 (Int32.toNatClampNeg 0) ky)))), (a8, .inl (C 0, 5999, .inl ((upd f8 (Int32.toNatClampNeg 0) (-1))))), (a9, .inl (C 0, 5999, .inl ((upd f9 (Int32.toNatClampNeg 0) (-1))))), (a10, .inl (C 0, 5999, .inl ((upd f10 (Int32.toNatClampNeg 0) 0)))), (a11, .inl (C 0, 5999, .inl f11)), (h0, .inr (3, [.ref a0, .ref a1, .ref a2, .ref a3, .ref a4, .ref a5, .ref a6, .int 1, .ref a7, .ref a8, .ref a9, .ref a10, .ref a11, .int x_3]))] H := hP
  have hD : va_D A [(a3, .inl (C 0, 600, .inl f3)), (a7, .inl (C 0, 5999, .inl ((upd f7 (Int32.toNatClampNeg 0) ky)))), (a8, .inl (C 0, 5999, .inl ((upd f8 (Int32.toNatClampNeg 0) (-1))))), (a9, .inl (C 0, 5999, .inl ((upd f9 (Int32.toNatClampNeg 0) (-1))))), (a10, .inl (C 0, 5999, .inl ((upd f10 (Int32.toNatClampNeg 0) 0)))), (a11, .inl (C 0, 5999, .inl f11)), (h0, .inr (3, [.ref a0, .ref a1, .ref a2, .ref a3, .ref a4, .ref a5, .ref a6, .int 1, .ref a7, .ref a8, .ref a9, .ref a10, .ref a11, .int x_3]))] := hD
  refine lv_aload_n hx hb dX3_append_61 rfl (lv_at hl 1 rfl) ?_
  refine lv_iload_n hx hb dX3_append_62 rfl (lv_at hl 2 rfl) ?_
  have hPc := hP.sub (ws' := [(h0, .inr (3, [.ref a0, .ref a1, .ref a2, .ref a3, .ref a4, .ref a5, .ref a6, .int 1, .ref a7, .ref a8, .ref a9, .ref a10, .ref a11, .int x_3])), (a3, .inl (C 0, 600, .inl f3))]) [6, 0] rfl
  have hDc := hD.sub (ws' := [(h0, .inr (3, [.ref a0, .ref a1, .ref a2, .ref a3, .ref a4, .ref a5, .ref a6, .int 1, .ref a7, .ref a8, .ref a9, .ref a10, .ref a11, .int x_3])), (a3, .inl (C 0, 600, .inl f3))]) [6, 0] (by decide) rfl
  have hFc := va_free (wc := [(h0, .inr (3, [.ref a0, .ref a1, .ref a2, .ref a3, .ref a4, .ref a5, .ref a6, .int 1, .ref a7, .ref a8, .ref a9, .ref a10, .ref a11, .int x_3])), (a3, .inl (C 0, 600, .inl f3))]) hD hS hA [6, 0] rfl
  refine va_calli (va_runV (As := [.int (-2)]) (rest := []) ⟨hx, hb, hml, hown, ht⟩ (k3_firstSlotOf l D C b0 H.size h0 a0 a1 a2 a3 a4 a5 a6 a7 a8 a9 a10 a11 f3 x_3 (by first | assumption | rfl | decide)) (cwV 1 ht (xg_V m_298 m_299 m_300 m_258 m_169) rfl rfl rfl (by decide +kernel) ⟨Nat.le_of_ble_eq_true rfl, Nat.le_of_ble_eq_true rfl⟩) ⟨xPc_bl, va_recv hK hPc (ci := 3) (q0 := 0) rfl rfl, xPc_at hPc hK hDc hE hS hAb⟩ rfl rfl hl.1 rfl (lv_room (Nat.le_of_ble_eq_true rfl)) dX3_append_63 ⟨(by decide), (by decide)⟩) hS (fun q _ h => hFc q h) hFc (fun r_4 u_5 t H1 locs ht1 hvm hw hB hz1 hk1 hS => ?_)
  obtain ⟨hP1, hD1⟩ := hB
  rw [ht1] at hP1
  try dsimp only at hw
  obtain ⟨hP, hD⟩ := va_join (wr := [(a7, .inl (C 0, 5999, .inl ((upd f7 (Int32.toNatClampNeg 0) ky)))), (a8, .inl (C 0, 5999, .inl ((upd f8 (Int32.toNatClampNeg 0) (-1))))), (a9, .inl (C 0, 5999, .inl ((upd f9 (Int32.toNatClampNeg 0) (-1))))), (a10, .inl (C 0, 5999, .inl ((upd f10 (Int32.toNatClampNeg 0) 0)))), (a11, .inl (C 0, 5999, .inl f11))]) (w1 := [(h0, .inr (3, [.ref a0, .ref a1, .ref a2, .ref a3, .ref a4, .ref a5, .ref a6, .int 1, .ref a7, .ref a8, .ref a9, .ref a10, .ref a11, .int x_3])), (a3, .inl (C 0, 600, .inl f3))]) hP hD [6, 0] [1, 2, 3, 4, 5] rfl rfl (by decide) (by decide) hk1 hFc hP1 hD1
  generalize H1 = H at hP hS ⊢
  have hP : va_P D vwCl [(a7, .inl (C 0, 5999, .inl ((upd f7 (Int32.toNatClampNeg 0) ky)))), (a8, .inl (C 0, 5999, .inl ((upd f8 (Int32.toNatClampNeg 0) (-1))))), (a9, .inl (C 0, 5999, .inl ((upd f9 (Int32.toNatClampNeg 0) (-1))))), (a10, .inl (C 0, 5999, .inl ((upd f10 (Int32.toNatClampNeg 0) 0)))), (a11, .inl (C 0, 5999, .inl f11)), (h0, .inr (3, [.ref a0, .ref a1, .ref a2, .ref a3, .ref a4, .ref a5, .ref a6, .int 1, .ref a7, .ref a8, .ref a9, .ref a10, .ref a11, .int x_3])), (a3, .inl (C 0, 600, .inl f3))] H := hP
  have hD : va_D A [(a7, .inl (C 0, 5999, .inl ((upd f7 (Int32.toNatClampNeg 0) ky)))), (a8, .inl (C 0, 5999, .inl ((upd f8 (Int32.toNatClampNeg 0) (-1))))), (a9, .inl (C 0, 5999, .inl ((upd f9 (Int32.toNatClampNeg 0) (-1))))), (a10, .inl (C 0, 5999, .inl ((upd f10 (Int32.toNatClampNeg 0) 0)))), (a11, .inl (C 0, 5999, .inl f11)), (h0, .inr (3, [.ref a0, .ref a1, .ref a2, .ref a3, .ref a4, .ref a5, .ref a6, .int 1, .ref a7, .ref a8, .ref a9, .ref a10, .ref a11, .int x_3])), (a3, .inl (C 0, 600, .inl f3))] := hD
  have hq_63 := hw
  obtain rfl : r_4 = (-1 : Int32) := hw
  refine lv_istore (lv' := [(4, .int (-1)), (3, .int 0), (0, .ref h0), (1, .int (-2)), (2, .int ky)]) hx hb dX3_append_66 hl (by decide) rfl (fun ls hl => ?_)
  refine lv_aload_n hx hb dX3_append_68 rfl (lv_at hl 2 rfl) ?_
  refine lv_iload hx hb dX3_append_69 (lv_at hl 0 rfl) ?_
  refine lv_iload_n hx hb dX3_append_71 rfl (lv_at hl 4 rfl) ?_
  have hPc := hP.sub (ws' := [(h0, .inr (3, [.ref a0, .ref a1, .ref a2, .ref a3, .ref a4, .ref a5, .ref a6, .int 1, .ref a7, .ref a8, .ref a9, .ref a10, .ref a11, .int x_3]))]) [5] rfl
  have hDc := hD.sub (ws' := [(h0, .inr (3, [.ref a0, .ref a1, .ref a2, .ref a3, .ref a4, .ref a5, .ref a6, .int 1, .ref a7, .ref a8, .ref a9, .ref a10, .ref a11, .int x_3]))]) [5] (by decide) rfl
  have hFc := va_free (wc := [(h0, .inr (3, [.ref a0, .ref a1, .ref a2, .ref a3, .ref a4, .ref a5, .ref a6, .int 1, .ref a7, .ref a8, .ref a9, .ref a10, .ref a11, .int x_3]))]) hD hS hA [5] rfl
  refine va_calli (va_runV (As := [.int (-1), .int ky]) (rest := []) ⟨hx, hb, hml, hown, ht⟩ (k3_slotBefore l D C b0 H.size h0 a0 a1 a2 a3 a4 a5 a6 a7 a8 a9 a10 a11 x_3 ky) (cwV 2 ht (xg_V m_301 m_302 m_303 m_258 m_170) rfl rfl rfl (by decide +kernel) ⟨Nat.le_of_ble_eq_true rfl, Nat.le_of_ble_eq_true rfl⟩) ⟨xPc_bl, va_recv hK hPc (ci := 3) (q0 := 0) rfl rfl, xPc_at hPc hK hDc hE hS hAb⟩ rfl rfl hl.1 rfl (lv_room (Nat.le_of_ble_eq_true rfl)) dX3_append_72 ⟨(by decide), (by decide)⟩) hS (fun q _ h => hFc q h) hFc (fun r_6 u_7 t H1 locs ht1 hvm hw hB hz1 hk1 hS => ?_)
  obtain ⟨hP1, hD1⟩ := hB
  rw [ht1] at hP1
  try dsimp only at hw
  obtain ⟨hP, hD⟩ := va_join (wr := [(a7, .inl (C 0, 5999, .inl ((upd f7 (Int32.toNatClampNeg 0) ky)))), (a8, .inl (C 0, 5999, .inl ((upd f8 (Int32.toNatClampNeg 0) (-1))))), (a9, .inl (C 0, 5999, .inl ((upd f9 (Int32.toNatClampNeg 0) (-1))))), (a10, .inl (C 0, 5999, .inl ((upd f10 (Int32.toNatClampNeg 0) 0)))), (a11, .inl (C 0, 5999, .inl f11)), (a3, .inl (C 0, 600, .inl f3))]) (w1 := [(h0, .inr (3, [.ref a0, .ref a1, .ref a2, .ref a3, .ref a4, .ref a5, .ref a6, .int 1, .ref a7, .ref a8, .ref a9, .ref a10, .ref a11, .int x_3]))]) hP hD [5] [0, 1, 2, 3, 4, 6] rfl rfl (by decide) (by decide) hk1 hFc hP1 hD1
  generalize H1 = H at hP hS ⊢
  have hP : va_P D vwCl [(a7, .inl (C 0, 5999, .inl ((upd f7 (Int32.toNatClampNeg 0) ky)))), (a8, .inl (C 0, 5999, .inl ((upd f8 (Int32.toNatClampNeg 0) (-1))))), (a9, .inl (C 0, 5999, .inl ((upd f9 (Int32.toNatClampNeg 0) (-1))))), (a10, .inl (C 0, 5999, .inl ((upd f10 (Int32.toNatClampNeg 0) 0)))), (a11, .inl (C 0, 5999, .inl f11)), (a3, .inl (C 0, 600, .inl f3)), (h0, .inr (3, [.ref a0, .ref a1, .ref a2, .ref a3, .ref a4, .ref a5, .ref a6, .int 1, .ref a7, .ref a8, .ref a9, .ref a10, .ref a11, .int x_3]))] H := hP
  have hD : va_D A [(a7, .inl (C 0, 5999, .inl ((upd f7 (Int32.toNatClampNeg 0) ky)))), (a8, .inl (C 0, 5999, .inl ((upd f8 (Int32.toNatClampNeg 0) (-1))))), (a9, .inl (C 0, 5999, .inl ((upd f9 (Int32.toNatClampNeg 0) (-1))))), (a10, .inl (C 0, 5999, .inl ((upd f10 (Int32.toNatClampNeg 0) 0)))), (a11, .inl (C 0, 5999, .inl f11)), (a3, .inl (C 0, 600, .inl f3)), (h0, .inr (3, [.ref a0, .ref a1, .ref a2, .ref a3, .ref a4, .ref a5, .ref a6, .int 1, .ref a7, .ref a8, .ref a9, .ref a10, .ref a11, .int x_3]))] := hD
  have hq_72 := hw
  obtain rfl : r_6 = (-1 : Int32) := hw
  refine lv_istore (lv' := [(5, .int (-1)), (4, .int (-1)), (3, .int 0), (0, .ref h0), (1, .int (-2)), (2, .int ky)]) hx hb dX3_append_75 hl (by decide) rfl (fun ls hl => ?_)
  refine lv_aload_n hx hb dX3_append_77 rfl (lv_at hl 3 rfl) ?_
  refine va_get (D := D) (ci := 3) (v := .ref a11) (C := RX3) (T := TX3) (N := 14) hx hb ht inX3 hown hK hP 6 rfl rfl 12 (by decide) (ht _ m_293) (fun _ h9 => h9) rfl dX3_append_78 ?_
  refine lv_iload_n hx hb dX3_append_81 rfl (lv_at hl 2 rfl) ?_
  refine lv_iload hx hb dX3_append_82 (lv_at hl 0 rfl) ?_
  refine lv_iconst (v := (-1)) hx hb dX3_append_84 (by decide) ?_
  refine lv_icmp_ne (tgt := 93) hx hb dX3_append_85 (by decide) (fun c_85 => ?_) (fun c_85 => ?_)
  · exact absurd c_85 (by decide)
  refine lv_iload hx hb dX3_append_88 (lv_at hl 1 rfl) ?_
  refine lv_goto (tgt := 99) hx hb dX3_append_90 (by decide) ?_
  refine va_iast hx hb hK hP hD hS 4 0 rfl rfl (by unfold vp_in; decide) dX3_append_99 (fun H locs hP hD hS => ?_)
  have hP : va_P D vwCl [(a7, .inl (C 0, 5999, .inl ((upd f7 (Int32.toNatClampNeg 0) ky)))), (a8, .inl (C 0, 5999, .inl ((upd f8 (Int32.toNatClampNeg 0) (-1))))), (a9, .inl (C 0, 5999, .inl ((upd f9 (Int32.toNatClampNeg 0) (-1))))), (a10, .inl (C 0, 5999, .inl ((upd f10 (Int32.toNatClampNeg 0) 0)))), (a11, .inl (C 0, 5999, .inl ((upd f11 (Int32.toNatClampNeg 0) (-1))))), (a3, .inl (C 0, 600, .inl f3)), (h0, .inr (3, [.ref a0, .ref a1, .ref a2, .ref a3, .ref a4, .ref a5, .ref a6, .int 1, .ref a7, .ref a8, .ref a9, .ref a10, .ref a11, .int x_3]))] H := hP
  have hD : va_D A [(a7, .inl (C 0, 5999, .inl ((upd f7 (Int32.toNatClampNeg 0) ky)))), (a8, .inl (C 0, 5999, .inl ((upd f8 (Int32.toNatClampNeg 0) (-1))))), (a9, .inl (C 0, 5999, .inl ((upd f9 (Int32.toNatClampNeg 0) (-1))))), (a10, .inl (C 0, 5999, .inl ((upd f10 (Int32.toNatClampNeg 0) 0)))), (a11, .inl (C 0, 5999, .inl ((upd f11 (Int32.toNatClampNeg 0) (-1))))), (a3, .inl (C 0, 600, .inl f3)), (h0, .inr (3, [.ref a0, .ref a1, .ref a2, .ref a3, .ref a4, .ref a5, .ref a6, .int 1, .ref a7, .ref a8, .ref a9, .ref a10, .ref a11, .int x_3]))] := hD
  refine lv_aload_n hx hb dX3_append_100 rfl (lv_at hl 3 rfl) ?_
  refine lv_iload_n hx hb dX3_append_101 rfl (lv_at hl 4 rfl) ?_
  refine lv_iload hx hb dX3_append_102 (lv_at hl 0 rfl) ?_
  refine lv_iload_n hx hb dX3_append_104 rfl (lv_at hl 2 rfl) ?_
  have hPc := hP.sub (ws' := [(h0, .inr (3, [.ref a0, .ref a1, .ref a2, .ref a3, .ref a4, .ref a5, .ref a6, .int 1, .ref a7, .ref a8, .ref a9, .ref a10, .ref a11, .int x_3])), (a3, .inl (C 0, 600, .inl f3))]) [6, 5] rfl
  have hDc := hD.sub (ws' := [(h0, .inr (3, [.ref a0, .ref a1, .ref a2, .ref a3, .ref a4, .ref a5, .ref a6, .int 1, .ref a7, .ref a8, .ref a9, .ref a10, .ref a11, .int x_3])), (a3, .inl (C 0, 600, .inl f3))]) [6, 5] (by decide) rfl
  have hFc := va_free (wc := [(h0, .inr (3, [.ref a0, .ref a1, .ref a2, .ref a3, .ref a4, .ref a5, .ref a6, .int 1, .ref a7, .ref a8, .ref a9, .ref a10, .ref a11, .int x_3])), (a3, .inl (C 0, 600, .inl f3))]) hD hS hA [6, 5] rfl
  refine va_callv (va_runV (As := [.int (-2), .int (-1), .int 0]) (rest := []) ⟨hx, hb, hml, hown, ht⟩ (k3_link l D C b0 H.size h0 a0 a1 a2 a3 a4 a5 a6 a7 a8 a9 a10 a11 f3 x_3) (cwV 3 ht (xg_V m_304 m_305 m_306 m_258 m_171) rfl rfl rfl (by decide +kernel) ⟨Nat.le_of_ble_eq_true rfl, Nat.le_of_ble_eq_true rfl⟩) ⟨xPc_bl, va_recv hK hPc (ci := 3) (q0 := 0) rfl rfl, xPc_at hPc hK hDc hE hS hAb⟩ rfl rfl hl.1 rfl (lv_room (Nat.le_of_ble_eq_true rfl)) dX3_append_105 ⟨(by decide), (by decide)⟩) hS (fun q _ h => hFc q h) hFc (fun u_8 t H1 locs ht1 hvm hw hB hz1 hk1 hS => ?_)
  obtain ⟨hP1, hD1⟩ := hB
  rw [ht1] at hP1
  try dsimp only at hw
  obtain ⟨hP, hD⟩ := va_join (wr := [(a7, .inl (C 0, 5999, .inl ((upd f7 (Int32.toNatClampNeg 0) ky)))), (a8, .inl (C 0, 5999, .inl ((upd f8 (Int32.toNatClampNeg 0) (-1))))), (a9, .inl (C 0, 5999, .inl ((upd f9 (Int32.toNatClampNeg 0) (-1))))), (a10, .inl (C 0, 5999, .inl ((upd f10 (Int32.toNatClampNeg 0) 0)))), (a11, .inl (C 0, 5999, .inl ((upd f11 (Int32.toNatClampNeg 0) (-1)))))]) (w1 := [(h0, .inr (3, [.ref a0, .ref a1, .ref a2, .ref a3, .ref a4, .ref a5, .ref a6, .int 1, .ref a7, .ref a8, .ref a9, .ref a10, .ref a11, .int x_3])), (a3, .inl (C 0, 600, .inl (u_8.2 0)))]) hP hD [6, 5] [0, 1, 2, 3, 4] rfl rfl (by decide) (by decide) hk1 hFc hP1 hD1
  generalize H1 = H at hP hS ⊢
  have hP : va_P D vwCl [(a7, .inl (C 0, 5999, .inl ((upd f7 (Int32.toNatClampNeg 0) ky)))), (a8, .inl (C 0, 5999, .inl ((upd f8 (Int32.toNatClampNeg 0) (-1))))), (a9, .inl (C 0, 5999, .inl ((upd f9 (Int32.toNatClampNeg 0) (-1))))), (a10, .inl (C 0, 5999, .inl ((upd f10 (Int32.toNatClampNeg 0) 0)))), (a11, .inl (C 0, 5999, .inl ((upd f11 (Int32.toNatClampNeg 0) (-1))))), (h0, .inr (3, [.ref a0, .ref a1, .ref a2, .ref a3, .ref a4, .ref a5, .ref a6, .int 1, .ref a7, .ref a8, .ref a9, .ref a10, .ref a11, .int x_3])), (a3, .inl (C 0, 600, .inl (u_8.2 0)))] H := hP
  have hD : va_D A [(a7, .inl (C 0, 5999, .inl ((upd f7 (Int32.toNatClampNeg 0) ky)))), (a8, .inl (C 0, 5999, .inl ((upd f8 (Int32.toNatClampNeg 0) (-1))))), (a9, .inl (C 0, 5999, .inl ((upd f9 (Int32.toNatClampNeg 0) (-1))))), (a10, .inl (C 0, 5999, .inl ((upd f10 (Int32.toNatClampNeg 0) 0)))), (a11, .inl (C 0, 5999, .inl ((upd f11 (Int32.toNatClampNeg 0) (-1))))), (h0, .inr (3, [.ref a0, .ref a1, .ref a2, .ref a3, .ref a4, .ref a5, .ref a6, .int 1, .ref a7, .ref a8, .ref a9, .ref a10, .ref a11, .int x_3])), (a3, .inl (C 0, 600, .inl (u_8.2 0)))] := hD
  have hq_105 := hw
  refine lv_iload_n hx hb dX3_append_108 rfl (lv_at hl 2 rfl) ?_
  have hP9 := hP.sub (ws' := [(h0, .inr (3, [.ref a0, .ref a1, .ref a2, .ref a3, .ref a4, .ref a5, .ref a6, .int 1, .ref a7, .ref a8, .ref a9, .ref a10, .ref a11, .int x_3])), (a3, .inl (C 0, 600, .inl (u_8.2 0))), (a7, .inl (C 0, 5999, .inl ((upd f7 (Int32.toNatClampNeg 0) ky)))), (a8, .inl (C 0, 5999, .inl ((upd f8 (Int32.toNatClampNeg 0) (-1))))), (a9, .inl (C 0, 5999, .inl ((upd f9 (Int32.toNatClampNeg 0) (-1))))), (a10, .inl (C 0, 5999, .inl ((upd f10 (Int32.toNatClampNeg 0) 0)))), (a11, .inl (C 0, 5999, .inl ((upd f11 (Int32.toNatClampNeg 0) (-1)))))]) [5, 6, 0, 1, 2, 3, 4] rfl
  have hD9 := hD.sub (ws' := [(h0, .inr (3, [.ref a0, .ref a1, .ref a2, .ref a3, .ref a4, .ref a5, .ref a6, .int 1, .ref a7, .ref a8, .ref a9, .ref a10, .ref a11, .int x_3])), (a3, .inl (C 0, 600, .inl (u_8.2 0))), (a7, .inl (C 0, 5999, .inl ((upd f7 (Int32.toNatClampNeg 0) ky)))), (a8, .inl (C 0, 5999, .inl ((upd f8 (Int32.toNatClampNeg 0) (-1))))), (a9, .inl (C 0, 5999, .inl ((upd f9 (Int32.toNatClampNeg 0) (-1))))), (a10, .inl (C 0, 5999, .inl ((upd f10 (Int32.toNatClampNeg 0) 0)))), (a11, .inl (C 0, 5999, .inl ((upd f11 (Int32.toNatClampNeg 0) (-1)))))]) [5, 6, 0, 1, 2, 3, 4] (by decide) rfl
  refine W.widen (k := 0) (n := 0) (by decide) (by decide) ?_
  exact W.iret (v := 0) hx hb hr (fun t ht1 hW => ⟨⟨0, (xA [], xF [(u_8.2 0), (upd f7 (Int32.toNatClampNeg 0) ky), (upd f8 (Int32.toNatClampNeg 0) (-1)), (upd f9 (Int32.toNatClampNeg 0) (-1)), (upd f10 (Int32.toNatClampNeg 0) 0), (upd f11 (Int32.toNatClampNeg 0) (-1)), (fun _ => x_3)]), rfl, by first | trivial | rfl | assumption | decide | (simp_all; done), by rw [ht1]; exact hP9, hD9⟩, hS.F ht1⟩) hS.2.2 dX3_append_109
set_option maxHeartbeats 4000000 in
set_option maxRecDepth 100000 in
theorem k3_putValueAt (l : Launch) (D : va_G) (C : Nat → ClassId) (b0 sz : Nat) (h0 : Nat) (a0 : Nat) (a1 : Nat) (a2 : Nat) (a3 : Nat) (a4 : Nat) (a5 : Nat) (a6 : Nat) (a7 : Nat) (a8 : Nat) (a9 : Nat) (a10 : Nat) (a11 : Nat) (f8 : Nat → Int32) (ff : Int32) (vv : Int32) : Met l yX3_putValueAt (xw yX3_putValueAt cX3_putValueAt 3 none) ({ frames := 16, cells := 0, slots := 0, locals := 300 }) (xPc D C b0 [.ref h0, .int 0, .int vv] [(h0, .inr (3, [.ref a0, .ref a1, .ref a2, .ref a3, .ref a4, .ref a5, .ref a6, .int 1, .ref a7, .ref a8, .ref a9, .ref a10, .ref a11, .int ff])), (a8, .inl (C 0, 5999, .inl f8))] sz) (va_Qv (fun u : xS => True) (xBw D (va_A [(h0, .inr (3, [.ref a0, .ref a1, .ref a2, .ref a3, .ref a4, .ref a5, .ref a6, .int 1, .ref a7, .ref a8, .ref a9, .ref a10, .ref a11, .int ff])), (a8, .inl (C 0, 5999, .inl f8))] sz) (fun u => [(h0, .inr (3, [.ref a0, .ref a1, .ref a2, .ref a3, .ref a4, .ref a5, .ref a6, .int 1, .ref a7, .ref a8, .ref a9, .ref a10, .ref a11, .int ff])), (a8, .inl (C 0, 5999, .inl (u.2 0)))])) (va_A [(h0, .inr (3, [.ref a0, .ref a1, .ref a2, .ref a3, .ref a4, .ref a5, .ref a6, .int 1, .ref a7, .ref a8, .ref a9, .ref a10, .ref a11, .int ff])), (a8, .inl (C 0, 5999, .inl f8))] sz)) 0 0 (va_A [(h0, .inr (3, [.ref a0, .ref a1, .ref a2, .ref a3, .ref a4, .ref a5, .ref a6, .int 1, .ref a7, .ref a8, .ref a9, .ref a10, .ref a11, .int ff])), (a8, .inl (C 0, 5999, .inl f8))] sz) := by
  refine Met.ofW (cc := cX3_putValueAt) (maxL := 3) (ret := none) (by decide) rfl ?_
  intro p e s m args below meth c s₁ B hml hv
  obtain ⟨rfl, hsz, hP, hK, hD0, hE⟩ := hv
  have hx := B.exec
  have hb := B.bytes
  have hr := B.returns
  have ht : ∀ w ∈ xb, w.before _ s = true := fun w h => atoms_spec (ws := xw yX3_putValueAt cX3_putValueAt 3 none) B.pre w (List.mem_cons_of_mem _ h)
  have hown : s.vm.findClass RX3 = some m.cls := findClass_of_methodNamed B.named
  have hlocks := B.notSynchronized
  subst hsz
  have hAb := x_Ab hD0 hE.1
  have hD := hD0.self (sz := s.heap.size)
  generalize hAe : va_A [(h0, .inr (3, [.ref a0, .ref a1, .ref a2, .ref a3, .ref a4, .ref a5, .ref a6, .int 1, .ref a7, .ref a8, .ref a9, .ref a10, .ref a11, .int ff])), (a8, .inl (C 0, 5999, .inl f8))] s.heap.size = A at hD hAb ⊢
  have hA : ∀ q : Nat, s.heap.size ≤ q → A q := fun q h => by rw [← hAe]; exact Or.inr h
  have hS : va_S A s.heap s.heap [] := va_S.rf
  have hP : va_P D vwCl [(h0, .inr (3, [.ref a0, .ref a1, .ref a2, .ref a3, .ref a4, .ref a5, .ref a6, .int 1, .ref a7, .ref a8, .ref a9, .ref a10, .ref a11, .int ff])), (a8, .inl (C 0, 5999, .inl f8))] s.heap := hP
  have hl := lv_entry ([.ref h0, .int 0, .int vv]) (n := 3) (Nat.le_of_ble_eq_true rfl)
  rw [lg_entry_eq]
  generalize (lg_sl ([.ref h0, .int 0, .int vv]) ++ List.replicate (3 - (lg_sl ([.ref h0, .int 0, .int vv])).length) Slot.unset).toArray = ls at hl ⊢
  have hl : lv_has ls 3 [(0, .ref h0), (1, .int 0), (2, .int vv)] := hl
  refine lv_aload_n hx hb dX3_putValueAt_0 rfl (lv_at hl 0 rfl) ?_
  refine lv_iload_n hx hb dX3_putValueAt_1 rfl (lv_at hl 1 rfl) ?_
  have hPc := hP.sub (ws' := [(h0, .inr (3, [.ref a0, .ref a1, .ref a2, .ref a3, .ref a4, .ref a5, .ref a6, .int 1, .ref a7, .ref a8, .ref a9, .ref a10, .ref a11, .int ff]))]) [0] rfl
  have hDc := hD.sub (ws' := [(h0, .inr (3, [.ref a0, .ref a1, .ref a2, .ref a3, .ref a4, .ref a5, .ref a6, .int 1, .ref a7, .ref a8, .ref a9, .ref a10, .ref a11, .int ff]))]) [0] (by decide) rfl
  have hFc := va_free (wc := [(h0, .inr (3, [.ref a0, .ref a1, .ref a2, .ref a3, .ref a4, .ref a5, .ref a6, .int 1, .ref a7, .ref a8, .ref a9, .ref a10, .ref a11, .int ff]))]) hD hS hA [0] rfl
  refine va_calli (va_runV (As := [.int 0]) (rest := []) ⟨hx, hb, hml, hown, ht⟩ (k3_isSlot0 l D C b0 s.heap.size h0 a0 a1 a2 a3 a4 a5 a6 a7 a8 a9 a10 a11 ff) (cwV 1 ht (xg_V m_289 m_290 m_291 m_258 m_166) rfl rfl rfl (by decide +kernel) ⟨Nat.le_of_ble_eq_true rfl, Nat.le_of_ble_eq_true rfl⟩) ⟨xPc_bl, va_recv hK hPc (ci := 3) (q0 := 0) rfl rfl, xPc_at hPc hK hDc hE hS hAb⟩ rfl rfl hl.1 rfl (lv_room (Nat.le_of_ble_eq_true rfl)) dX3_putValueAt_2 ⟨(by decide), (by decide)⟩) hS (fun q _ h => hFc q h) hFc (fun r_1 u_2 t H1 locs ht1 hvm hw hB hz1 hk1 hS => ?_)
  obtain ⟨hP1, hD1⟩ := hB
  rw [ht1] at hP1
  try dsimp only at hw
  obtain ⟨hP, hD⟩ := va_join (wr := [(a8, .inl (C 0, 5999, .inl f8))]) (w1 := [(h0, .inr (3, [.ref a0, .ref a1, .ref a2, .ref a3, .ref a4, .ref a5, .ref a6, .int 1, .ref a7, .ref a8, .ref a9, .ref a10, .ref a11, .int ff]))]) hP hD [0] [1] rfl rfl (by decide) (by decide) hk1 hFc hP1 hD1
  generalize H1 = H at hP hS ⊢
  have hP : va_P D vwCl [(a8, .inl (C 0, 5999, .inl f8)), (h0, .inr (3, [.ref a0, .ref a1, .ref a2, .ref a3, .ref a4, .ref a5, .ref a6, .int 1, .ref a7, .ref a8, .ref a9, .ref a10, .ref a11, .int ff]))] H := hP
  have hD : va_D A [(a8, .inl (C 0, 5999, .inl f8)), (h0, .inr (3, [.ref a0, .ref a1, .ref a2, .ref a3, .ref a4, .ref a5, .ref a6, .int 1, .ref a7, .ref a8, .ref a9, .ref a10, .ref a11, .int ff]))] := hD
  have hq_2 := hw
  obtain rfl : r_1 = (1 : Int32) := hw
  refine lv_if_eq (tgt := 15) hx hb dX3_putValueAt_5 (by decide) (fun c_5 => ?_) (fun c_5 => ?_)
  · exact absurd c_5 (by decide)
  refine lv_aload_n hx hb dX3_putValueAt_8 rfl (lv_at hl 0 rfl) ?_
  refine va_get (D := D) (ci := 3) (v := .ref a8) (C := RX3) (T := TX3) (N := 14) hx hb ht inX3 hown hK hP 1 rfl rfl 9 (by decide) (ht _ m_295) (fun _ h9 => h9) rfl dX3_putValueAt_9 ?_
  refine lv_iload_n hx hb dX3_putValueAt_12 rfl (lv_at hl 1 rfl) ?_
  refine lv_iload_n hx hb dX3_putValueAt_13 rfl (lv_at hl 2 rfl) ?_
  refine va_iast hx hb hK hP hD hS 0 0 rfl rfl (by unfold vp_in; decide) dX3_putValueAt_14 (fun H locs hP hD hS => ?_)
  have hP : va_P D vwCl [(a8, .inl (C 0, 5999, .inl ((upd f8 (Int32.toNatClampNeg 0) vv)))), (h0, .inr (3, [.ref a0, .ref a1, .ref a2, .ref a3, .ref a4, .ref a5, .ref a6, .int 1, .ref a7, .ref a8, .ref a9, .ref a10, .ref a11, .int ff]))] H := hP
  have hD : va_D A [(a8, .inl (C 0, 5999, .inl ((upd f8 (Int32.toNatClampNeg 0) vv)))), (h0, .inr (3, [.ref a0, .ref a1, .ref a2, .ref a3, .ref a4, .ref a5, .ref a6, .int 1, .ref a7, .ref a8, .ref a9, .ref a10, .ref a11, .int ff]))] := hD
  have hP9 := hP.sub (ws' := [(h0, .inr (3, [.ref a0, .ref a1, .ref a2, .ref a3, .ref a4, .ref a5, .ref a6, .int 1, .ref a7, .ref a8, .ref a9, .ref a10, .ref a11, .int ff])), (a8, .inl (C 0, 5999, .inl ((upd f8 (Int32.toNatClampNeg 0) vv))))]) [1, 0] rfl
  have hD9 := hD.sub (ws' := [(h0, .inr (3, [.ref a0, .ref a1, .ref a2, .ref a3, .ref a4, .ref a5, .ref a6, .int 1, .ref a7, .ref a8, .ref a9, .ref a10, .ref a11, .int ff])), (a8, .inl (C 0, 5999, .inl ((upd f8 (Int32.toNatClampNeg 0) vv))))]) [1, 0] (by decide) rfl
  refine W.widen (k := 0) (n := 0) (by decide) (by decide) ?_
  exact W.vret hx hb hr (fun t ht1 hW => ⟨⟨(xA [], xF [(upd f8 (Int32.toNatClampNeg 0) vv)]), rfl, by first | trivial | rfl | assumption | decide | (simp_all; done), by rw [ht1]; exact hP9, hD9⟩, hS.F ht1⟩) hS.2.2 dX3_putValueAt_15
set_option maxHeartbeats 4000000 in
set_option maxRecDepth 100000 in
theorem k3_putFlagsAt (l : Launch) (D : va_G) (C : Nat → ClassId) (b0 sz : Nat) (h0 : Nat) (a0 : Nat) (a1 : Nat) (a2 : Nat) (a3 : Nat) (a4 : Nat) (a5 : Nat) (a6 : Nat) (a7 : Nat) (a8 : Nat) (a9 : Nat) (a10 : Nat) (a11 : Nat) (f10 : Nat → Int32) (ff : Int32) (vv : Int32) : Met l yX3_putFlagsAt (xw yX3_putFlagsAt cX3_putFlagsAt 3 none) ({ frames := 16, cells := 0, slots := 0, locals := 300 }) (xPc D C b0 [.ref h0, .int 0, .int vv] [(h0, .inr (3, [.ref a0, .ref a1, .ref a2, .ref a3, .ref a4, .ref a5, .ref a6, .int 1, .ref a7, .ref a8, .ref a9, .ref a10, .ref a11, .int ff])), (a10, .inl (C 0, 5999, .inl f10))] sz) (va_Qv (fun u : xS => True) (xBw D (va_A [(h0, .inr (3, [.ref a0, .ref a1, .ref a2, .ref a3, .ref a4, .ref a5, .ref a6, .int 1, .ref a7, .ref a8, .ref a9, .ref a10, .ref a11, .int ff])), (a10, .inl (C 0, 5999, .inl f10))] sz) (fun u => [(h0, .inr (3, [.ref a0, .ref a1, .ref a2, .ref a3, .ref a4, .ref a5, .ref a6, .int 1, .ref a7, .ref a8, .ref a9, .ref a10, .ref a11, .int ff])), (a10, .inl (C 0, 5999, .inl (u.2 0)))])) (va_A [(h0, .inr (3, [.ref a0, .ref a1, .ref a2, .ref a3, .ref a4, .ref a5, .ref a6, .int 1, .ref a7, .ref a8, .ref a9, .ref a10, .ref a11, .int ff])), (a10, .inl (C 0, 5999, .inl f10))] sz)) 0 0 (va_A [(h0, .inr (3, [.ref a0, .ref a1, .ref a2, .ref a3, .ref a4, .ref a5, .ref a6, .int 1, .ref a7, .ref a8, .ref a9, .ref a10, .ref a11, .int ff])), (a10, .inl (C 0, 5999, .inl f10))] sz) := by
  refine Met.ofW (cc := cX3_putFlagsAt) (maxL := 3) (ret := none) (by decide) rfl ?_
  intro p e s m args below meth c s₁ B hml hv
  obtain ⟨rfl, hsz, hP, hK, hD0, hE⟩ := hv
  have hx := B.exec
  have hb := B.bytes
  have hr := B.returns
  have ht : ∀ w ∈ xb, w.before _ s = true := fun w h => atoms_spec (ws := xw yX3_putFlagsAt cX3_putFlagsAt 3 none) B.pre w (List.mem_cons_of_mem _ h)
  have hown : s.vm.findClass RX3 = some m.cls := findClass_of_methodNamed B.named
  have hlocks := B.notSynchronized
  subst hsz
  have hAb := x_Ab hD0 hE.1
  have hD := hD0.self (sz := s.heap.size)
  generalize hAe : va_A [(h0, .inr (3, [.ref a0, .ref a1, .ref a2, .ref a3, .ref a4, .ref a5, .ref a6, .int 1, .ref a7, .ref a8, .ref a9, .ref a10, .ref a11, .int ff])), (a10, .inl (C 0, 5999, .inl f10))] s.heap.size = A at hD hAb ⊢
  have hA : ∀ q : Nat, s.heap.size ≤ q → A q := fun q h => by rw [← hAe]; exact Or.inr h
  have hS : va_S A s.heap s.heap [] := va_S.rf
  have hP : va_P D vwCl [(h0, .inr (3, [.ref a0, .ref a1, .ref a2, .ref a3, .ref a4, .ref a5, .ref a6, .int 1, .ref a7, .ref a8, .ref a9, .ref a10, .ref a11, .int ff])), (a10, .inl (C 0, 5999, .inl f10))] s.heap := hP
  have hl := lv_entry ([.ref h0, .int 0, .int vv]) (n := 3) (Nat.le_of_ble_eq_true rfl)
  rw [lg_entry_eq]
  generalize (lg_sl ([.ref h0, .int 0, .int vv]) ++ List.replicate (3 - (lg_sl ([.ref h0, .int 0, .int vv])).length) Slot.unset).toArray = ls at hl ⊢
  have hl : lv_has ls 3 [(0, .ref h0), (1, .int 0), (2, .int vv)] := hl
  refine lv_aload_n hx hb dX3_putFlagsAt_0 rfl (lv_at hl 0 rfl) ?_
  refine lv_iload_n hx hb dX3_putFlagsAt_1 rfl (lv_at hl 1 rfl) ?_
  have hPc := hP.sub (ws' := [(h0, .inr (3, [.ref a0, .ref a1, .ref a2, .ref a3, .ref a4, .ref a5, .ref a6, .int 1, .ref a7, .ref a8, .ref a9, .ref a10, .ref a11, .int ff]))]) [0] rfl
  have hDc := hD.sub (ws' := [(h0, .inr (3, [.ref a0, .ref a1, .ref a2, .ref a3, .ref a4, .ref a5, .ref a6, .int 1, .ref a7, .ref a8, .ref a9, .ref a10, .ref a11, .int ff]))]) [0] (by decide) rfl
  have hFc := va_free (wc := [(h0, .inr (3, [.ref a0, .ref a1, .ref a2, .ref a3, .ref a4, .ref a5, .ref a6, .int 1, .ref a7, .ref a8, .ref a9, .ref a10, .ref a11, .int ff]))]) hD hS hA [0] rfl
  refine va_calli (va_runV (As := [.int 0]) (rest := []) ⟨hx, hb, hml, hown, ht⟩ (k3_isSlot0 l D C b0 s.heap.size h0 a0 a1 a2 a3 a4 a5 a6 a7 a8 a9 a10 a11 ff) (cwV 1 ht (xg_V m_289 m_290 m_291 m_258 m_166) rfl rfl rfl (by decide +kernel) ⟨Nat.le_of_ble_eq_true rfl, Nat.le_of_ble_eq_true rfl⟩) ⟨xPc_bl, va_recv hK hPc (ci := 3) (q0 := 0) rfl rfl, xPc_at hPc hK hDc hE hS hAb⟩ rfl rfl hl.1 rfl (lv_room (Nat.le_of_ble_eq_true rfl)) dX3_putFlagsAt_2 ⟨(by decide), (by decide)⟩) hS (fun q _ h => hFc q h) hFc (fun r_1 u_2 t H1 locs ht1 hvm hw hB hz1 hk1 hS => ?_)
  obtain ⟨hP1, hD1⟩ := hB
  rw [ht1] at hP1
  try dsimp only at hw
  obtain ⟨hP, hD⟩ := va_join (wr := [(a10, .inl (C 0, 5999, .inl f10))]) (w1 := [(h0, .inr (3, [.ref a0, .ref a1, .ref a2, .ref a3, .ref a4, .ref a5, .ref a6, .int 1, .ref a7, .ref a8, .ref a9, .ref a10, .ref a11, .int ff]))]) hP hD [0] [1] rfl rfl (by decide) (by decide) hk1 hFc hP1 hD1
  generalize H1 = H at hP hS ⊢
  have hP : va_P D vwCl [(a10, .inl (C 0, 5999, .inl f10)), (h0, .inr (3, [.ref a0, .ref a1, .ref a2, .ref a3, .ref a4, .ref a5, .ref a6, .int 1, .ref a7, .ref a8, .ref a9, .ref a10, .ref a11, .int ff]))] H := hP
  have hD : va_D A [(a10, .inl (C 0, 5999, .inl f10)), (h0, .inr (3, [.ref a0, .ref a1, .ref a2, .ref a3, .ref a4, .ref a5, .ref a6, .int 1, .ref a7, .ref a8, .ref a9, .ref a10, .ref a11, .int ff]))] := hD
  have hq_2 := hw
  obtain rfl : r_1 = (1 : Int32) := hw
  refine lv_if_eq (tgt := 15) hx hb dX3_putFlagsAt_5 (by decide) (fun c_5 => ?_) (fun c_5 => ?_)
  · exact absurd c_5 (by decide)
  refine lv_aload_n hx hb dX3_putFlagsAt_8 rfl (lv_at hl 0 rfl) ?_
  refine va_get (D := D) (ci := 3) (v := .ref a10) (C := RX3) (T := TX3) (N := 14) hx hb ht inX3 hown hK hP 1 rfl rfl 11 (by decide) (ht _ m_297) (fun _ h9 => h9) rfl dX3_putFlagsAt_9 ?_
  refine lv_iload_n hx hb dX3_putFlagsAt_12 rfl (lv_at hl 1 rfl) ?_
  refine lv_iload_n hx hb dX3_putFlagsAt_13 rfl (lv_at hl 2 rfl) ?_
  refine va_iast hx hb hK hP hD hS 0 0 rfl rfl (by unfold vp_in; decide) dX3_putFlagsAt_14 (fun H locs hP hD hS => ?_)
  have hP : va_P D vwCl [(a10, .inl (C 0, 5999, .inl ((upd f10 (Int32.toNatClampNeg 0) vv)))), (h0, .inr (3, [.ref a0, .ref a1, .ref a2, .ref a3, .ref a4, .ref a5, .ref a6, .int 1, .ref a7, .ref a8, .ref a9, .ref a10, .ref a11, .int ff]))] H := hP
  have hD : va_D A [(a10, .inl (C 0, 5999, .inl ((upd f10 (Int32.toNatClampNeg 0) vv)))), (h0, .inr (3, [.ref a0, .ref a1, .ref a2, .ref a3, .ref a4, .ref a5, .ref a6, .int 1, .ref a7, .ref a8, .ref a9, .ref a10, .ref a11, .int ff]))] := hD
  have hP9 := hP.sub (ws' := [(h0, .inr (3, [.ref a0, .ref a1, .ref a2, .ref a3, .ref a4, .ref a5, .ref a6, .int 1, .ref a7, .ref a8, .ref a9, .ref a10, .ref a11, .int ff])), (a10, .inl (C 0, 5999, .inl ((upd f10 (Int32.toNatClampNeg 0) vv))))]) [1, 0] rfl
  have hD9 := hD.sub (ws' := [(h0, .inr (3, [.ref a0, .ref a1, .ref a2, .ref a3, .ref a4, .ref a5, .ref a6, .int 1, .ref a7, .ref a8, .ref a9, .ref a10, .ref a11, .int ff])), (a10, .inl (C 0, 5999, .inl ((upd f10 (Int32.toNatClampNeg 0) vv))))]) [1, 0] (by decide) rfl
  refine W.widen (k := 0) (n := 0) (by decide) (by decide) ?_
  exact W.vret hx hb hr (fun t ht1 hW => ⟨⟨(xA [], xF [(upd f10 (Int32.toNatClampNeg 0) vv)]), rfl, by first | trivial | rfl | assumption | decide | (simp_all; done), by rw [ht1]; exact hP9, hD9⟩, hS.F ht1⟩) hS.2.2 dX3_putFlagsAt_15
set_option maxHeartbeats 4000000 in
set_option maxRecDepth 100000 in
theorem k3_addArray (l : Launch) (D : va_G) (C : Nat → ClassId) (b0 sz : Nat) (h0 : Nat) (a0 : Nat) (a1 : Nat) (a2 : Nat) (a3 : Nat) (a4 : Nat) (a5 : Nat) (a6 : Nat) (a7 : Nat) (a8 : Nat) (a9 : Nat) (a10 : Nat) (a11 : Nat) (f0 : Nat → Int32) (f1 : Nat → Int32) (f2 : Nat → Int32) (f3 : Nat → Int32) (f7 : Nat → Int32) (f8 : Nat → Int32) (f9 : Nat → Int32) (f10 : Nat → Int32) (f11 : Nat → Int32) (nn : Int32) : Met l yX3_addArray (xw yX3_addArray cX3_addArray 4 (some .int)) ({ frames := 32, cells := 0, slots := 0, locals := 600 }) (xPc D C b0 [.ref h0, .int nn] [(h0, .inr (3, [.ref a0, .ref a1, .ref a2, .ref a3, .ref a4, .ref a5, .ref a6, .int 0, .ref a7, .ref a8, .ref a9, .ref a10, .ref a11, .int 0])), (a0, .inl (C 0, 600, .inl f0)), (a1, .inl (C 0, 600, .inl f1)), (a2, .inl (C 1, 600, .inl f2)), (a3, .inl (C 0, 600, .inl f3)), (a7, .inl (C 0, 5999, .inl f7)), (a8, .inl (C 0, 5999, .inl f8)), (a9, .inl (C 0, 5999, .inl f9)), (a10, .inl (C 0, 5999, .inl f10)), (a11, .inl (C 0, 5999, .inl f11))] sz) (va_Qi (fun (r : Int32) (u : xS) => r = -2) (xBw D (va_A [(h0, .inr (3, [.ref a0, .ref a1, .ref a2, .ref a3, .ref a4, .ref a5, .ref a6, .int 0, .ref a7, .ref a8, .ref a9, .ref a10, .ref a11, .int 0])), (a0, .inl (C 0, 600, .inl f0)), (a1, .inl (C 0, 600, .inl f1)), (a2, .inl (C 1, 600, .inl f2)), (a3, .inl (C 0, 600, .inl f3)), (a7, .inl (C 0, 5999, .inl f7)), (a8, .inl (C 0, 5999, .inl f8)), (a9, .inl (C 0, 5999, .inl f9)), (a10, .inl (C 0, 5999, .inl f10)), (a11, .inl (C 0, 5999, .inl f11))] sz) (fun u => [])) (va_A [(h0, .inr (3, [.ref a0, .ref a1, .ref a2, .ref a3, .ref a4, .ref a5, .ref a6, .int 0, .ref a7, .ref a8, .ref a9, .ref a10, .ref a11, .int 0])), (a0, .inl (C 0, 600, .inl f0)), (a1, .inl (C 0, 600, .inl f1)), (a2, .inl (C 1, 600, .inl f2)), (a3, .inl (C 0, 600, .inl f3)), (a7, .inl (C 0, 5999, .inl f7)), (a8, .inl (C 0, 5999, .inl f8)), (a9, .inl (C 0, 5999, .inl f9)), (a10, .inl (C 0, 5999, .inl f10)), (a11, .inl (C 0, 5999, .inl f11))] sz)) 0 0 (va_A [(h0, .inr (3, [.ref a0, .ref a1, .ref a2, .ref a3, .ref a4, .ref a5, .ref a6, .int 0, .ref a7, .ref a8, .ref a9, .ref a10, .ref a11, .int 0])), (a0, .inl (C 0, 600, .inl f0)), (a1, .inl (C 0, 600, .inl f1)), (a2, .inl (C 1, 600, .inl f2)), (a3, .inl (C 0, 600, .inl f3)), (a7, .inl (C 0, 5999, .inl f7)), (a8, .inl (C 0, 5999, .inl f8)), (a9, .inl (C 0, 5999, .inl f9)), (a10, .inl (C 0, 5999, .inl f10)), (a11, .inl (C 0, 5999, .inl f11))] sz) := by
  refine Met.ofW (cc := cX3_addArray) (maxL := 4) (ret := (some .int)) (by decide) rfl ?_
  intro p e s m args below meth c s₁ B hml hv
  obtain ⟨rfl, hsz, hP, hK, hD0, hE⟩ := hv
  have hx := B.exec
  have hb := B.bytes
  have hr := B.returns
  have ht : ∀ w ∈ xb, w.before _ s = true := fun w h => atoms_spec (ws := xw yX3_addArray cX3_addArray 4 (some .int)) B.pre w (List.mem_cons_of_mem _ h)
  have hown : s.vm.findClass RX3 = some m.cls := findClass_of_methodNamed B.named
  have hlocks := B.notSynchronized
  subst hsz
  have hAb := x_Ab hD0 hE.1
  have hD := hD0.self (sz := s.heap.size)
  generalize hAe : va_A [(h0, .inr (3, [.ref a0, .ref a1, .ref a2, .ref a3, .ref a4, .ref a5, .ref a6, .int 0, .ref a7, .ref a8, .ref a9, .ref a10, .ref a11, .int 0])), (a0, .inl (C 0, 600, .inl f0)), (a1, .inl (C 0, 600, .inl f1)), (a2, .inl (C 1, 600, .inl f2)), (a3, .inl (C 0, 600, .inl f3)), (a7, .inl (C 0, 5999, .inl f7)), (a8, .inl (C 0, 5999, .inl f8)), (a9, .inl (C 0, 5999, .inl f9)), (a10, .inl (C 0, 5999, .inl f10)), (a11, .inl (C 0, 5999, .inl f11))] s.heap.size = A at hD hAb ⊢
  have hA : ∀ q : Nat, s.heap.size ≤ q → A q := fun q h => by rw [← hAe]; exact Or.inr h
  have hS : va_S A s.heap s.heap [] := va_S.rf
  have hP : va_P D vwCl [(h0, .inr (3, [.ref a0, .ref a1, .ref a2, .ref a3, .ref a4, .ref a5, .ref a6, .int 0, .ref a7, .ref a8, .ref a9, .ref a10, .ref a11, .int 0])), (a0, .inl (C 0, 600, .inl f0)), (a1, .inl (C 0, 600, .inl f1)), (a2, .inl (C 1, 600, .inl f2)), (a3, .inl (C 0, 600, .inl f3)), (a7, .inl (C 0, 5999, .inl f7)), (a8, .inl (C 0, 5999, .inl f8)), (a9, .inl (C 0, 5999, .inl f9)), (a10, .inl (C 0, 5999, .inl f10)), (a11, .inl (C 0, 5999, .inl f11))] s.heap := hP
  have hl := lv_entry ([.ref h0, .int nn]) (n := 4) (Nat.le_of_ble_eq_true rfl)
  rw [lg_entry_eq]
  generalize (lg_sl ([.ref h0, .int nn]) ++ List.replicate (4 - (lg_sl ([.ref h0, .int nn])).length) Slot.unset).toArray = ls at hl ⊢
  have hl : lv_has ls 4 [(0, .ref h0), (1, .int nn)] := hl
  refine lv_aload_n hx hb dX3_addArray_0 rfl (lv_at hl 0 rfl) ?_
  refine va_get (D := D) (ci := 3) (v := .int 0) (C := RX3) (T := TX3) (N := 14) hx hb ht inX3 hown hK hP 0 rfl rfl 13 (by decide) (ht _ m_292) (fun _ h9 => h9) rfl dX3_addArray_1 ?_
  refine lv_iconst (v := (-1)) hx hb dX3_addArray_4 (by decide) ?_
  refine lv_icmp_ne (tgt := 18) hx hb dX3_addArray_5 (by decide) (fun c_5 => ?_) (fun c_5 => ?_)
  rotate_left
  · exact absurd c_5 (by decide)
  refine lv_aload_n hx hb dX3_addArray_18 rfl (lv_at hl 0 rfl) ?_
  refine lv_iconst (v := 2) hx hb dX3_addArray_19 (by decide) ?_
  refine lv_iconst (v := (-1)) hx hb dX3_addArray_20 (by decide) ?_
  have hPc := hP.sub (ws' := [(h0, .inr (3, [.ref a0, .ref a1, .ref a2, .ref a3, .ref a4, .ref a5, .ref a6, .int 0, .ref a7, .ref a8, .ref a9, .ref a10, .ref a11, .int 0])), (a0, .inl (C 0, 600, .inl f0)), (a1, .inl (C 0, 600, .inl f1)), (a2, .inl (C 1, 600, .inl f2)), (a3, .inl (C 0, 600, .inl f3))]) [0, 1, 2, 3, 4] rfl
  have hDc := hD.sub (ws' := [(h0, .inr (3, [.ref a0, .ref a1, .ref a2, .ref a3, .ref a4, .ref a5, .ref a6, .int 0, .ref a7, .ref a8, .ref a9, .ref a10, .ref a11, .int 0])), (a0, .inl (C 0, 600, .inl f0)), (a1, .inl (C 0, 600, .inl f1)), (a2, .inl (C 1, 600, .inl f2)), (a3, .inl (C 0, 600, .inl f3))]) [0, 1, 2, 3, 4] (by decide) rfl
  have hFc := va_free (wc := [(h0, .inr (3, [.ref a0, .ref a1, .ref a2, .ref a3, .ref a4, .ref a5, .ref a6, .int 0, .ref a7, .ref a8, .ref a9, .ref a10, .ref a11, .int 0])), (a0, .inl (C 0, 600, .inl f0)), (a1, .inl (C 0, 600, .inl f1)), (a2, .inl (C 1, 600, .inl f2)), (a3, .inl (C 0, 600, .inl f3))]) hD hS hA [0, 1, 2, 3, 4] rfl
  refine va_calli (va_runV (As := [.int 2, .int (-1)]) (rest := []) ⟨hx, hb, hml, hown, ht⟩ (k3_add l D C b0 s.heap.size h0 a0 a1 a2 a3 a4 a5 a6 a7 a8 a9 a10 a11 f0 f1 f2 f3 2 (-1)) (cwV 2 ht (xg_V m_286 m_287 m_288 m_258 m_167) rfl rfl rfl (by decide +kernel) ⟨Nat.le_of_ble_eq_true rfl, Nat.le_of_ble_eq_true rfl⟩) ⟨xPc_bl, va_recv hK hPc (ci := 3) (q0 := 0) rfl rfl, xPc_at hPc hK hDc hE hS hAb⟩ rfl rfl hl.1 rfl (lv_room (Nat.le_of_ble_eq_true rfl)) dX3_addArray_21 ⟨(by decide), (by decide)⟩) hS (fun q _ h => hFc q h) hFc (fun r_1 u_2 t H1 locs ht1 hvm hw hB hz1 hk1 hS => ?_)
  obtain ⟨hP1, hD1⟩ := hB
  rw [ht1] at hP1
  try dsimp only at hw
  obtain ⟨hP, hD⟩ := va_join (wr := [(a7, .inl (C 0, 5999, .inl f7)), (a8, .inl (C 0, 5999, .inl f8)), (a9, .inl (C 0, 5999, .inl f9)), (a10, .inl (C 0, 5999, .inl f10)), (a11, .inl (C 0, 5999, .inl f11))]) (w1 := [(h0, .inr (3, [.ref a0, .ref a1, .ref a2, .ref a3, .ref a4, .ref a5, .ref a6, .int 1, .ref a7, .ref a8, .ref a9, .ref a10, .ref a11, .int 0])), (a0, .inl (C 0, 600, .inl (u_2.2 0))), (a1, .inl (C 0, 600, .inl (u_2.2 1))), (a2, .inl (C 1, 600, .inl (u_2.2 2))), (a3, .inl (C 0, 600, .inl (u_2.2 3)))]) hP hD [0, 1, 2, 3, 4] [5, 6, 7, 8, 9] rfl rfl (by decide) (by decide) hk1 hFc hP1 hD1
  generalize H1 = H at hP hS ⊢
  have hP : va_P D vwCl [(a7, .inl (C 0, 5999, .inl f7)), (a8, .inl (C 0, 5999, .inl f8)), (a9, .inl (C 0, 5999, .inl f9)), (a10, .inl (C 0, 5999, .inl f10)), (a11, .inl (C 0, 5999, .inl f11)), (h0, .inr (3, [.ref a0, .ref a1, .ref a2, .ref a3, .ref a4, .ref a5, .ref a6, .int 1, .ref a7, .ref a8, .ref a9, .ref a10, .ref a11, .int 0])), (a0, .inl (C 0, 600, .inl (u_2.2 0))), (a1, .inl (C 0, 600, .inl (u_2.2 1))), (a2, .inl (C 1, 600, .inl (u_2.2 2))), (a3, .inl (C 0, 600, .inl (u_2.2 3)))] H := hP
  have hD : va_D A [(a7, .inl (C 0, 5999, .inl f7)), (a8, .inl (C 0, 5999, .inl f8)), (a9, .inl (C 0, 5999, .inl f9)), (a10, .inl (C 0, 5999, .inl f10)), (a11, .inl (C 0, 5999, .inl f11)), (h0, .inr (3, [.ref a0, .ref a1, .ref a2, .ref a3, .ref a4, .ref a5, .ref a6, .int 1, .ref a7, .ref a8, .ref a9, .ref a10, .ref a11, .int 0])), (a0, .inl (C 0, 600, .inl (u_2.2 0))), (a1, .inl (C 0, 600, .inl (u_2.2 1))), (a2, .inl (C 1, 600, .inl (u_2.2 2))), (a3, .inl (C 0, 600, .inl (u_2.2 3)))] := hD
  have hq_21 := hw
  obtain rfl : r_1 = (-2 : Int32) := hw.1
  refine lv_istore_n (lv' := [(2, .int (-2)), (0, .ref h0), (1, .int nn)]) hx hb dX3_addArray_24 rfl hl (by decide) rfl (fun ls hl => ?_)
  refine lv_aload_n hx hb dX3_addArray_25 rfl (lv_at hl 1 rfl) ?_
  refine lv_iload_n hx hb dX3_addArray_26 rfl (lv_at hl 0 rfl) ?_
  refine lv_bipush (v := 100) hx hb dX3_addArray_27 (by decide) ?_
  have hPc := hP.sub (ws' := [(h0, .inr (3, [.ref a0, .ref a1, .ref a2, .ref a3, .ref a4, .ref a5, .ref a6, .int 1, .ref a7, .ref a8, .ref a9, .ref a10, .ref a11, .int 0])), (a3, .inl (C 0, 600, .inl (u_2.2 3))), (a7, .inl (C 0, 5999, .inl f7)), (a8, .inl (C 0, 5999, .inl f8)), (a9, .inl (C 0, 5999, .inl f9)), (a10, .inl (C 0, 5999, .inl f10)), (a11, .inl (C 0, 5999, .inl f11))]) [5, 9, 0, 1, 2, 3, 4] rfl
  have hDc := hD.sub (ws' := [(h0, .inr (3, [.ref a0, .ref a1, .ref a2, .ref a3, .ref a4, .ref a5, .ref a6, .int 1, .ref a7, .ref a8, .ref a9, .ref a10, .ref a11, .int 0])), (a3, .inl (C 0, 600, .inl (u_2.2 3))), (a7, .inl (C 0, 5999, .inl f7)), (a8, .inl (C 0, 5999, .inl f8)), (a9, .inl (C 0, 5999, .inl f9)), (a10, .inl (C 0, 5999, .inl f10)), (a11, .inl (C 0, 5999, .inl f11))]) [5, 9, 0, 1, 2, 3, 4] (by decide) rfl
  have hFc := va_free (wc := [(h0, .inr (3, [.ref a0, .ref a1, .ref a2, .ref a3, .ref a4, .ref a5, .ref a6, .int 1, .ref a7, .ref a8, .ref a9, .ref a10, .ref a11, .int 0])), (a3, .inl (C 0, 600, .inl (u_2.2 3))), (a7, .inl (C 0, 5999, .inl f7)), (a8, .inl (C 0, 5999, .inl f8)), (a9, .inl (C 0, 5999, .inl f9)), (a10, .inl (C 0, 5999, .inl f10)), (a11, .inl (C 0, 5999, .inl f11))]) hD hS hA [5, 9, 0, 1, 2, 3, 4] rfl
  refine va_calli (va_runV (As := [.int (-2), .int 100]) (rest := []) ⟨hx, hb, hml, hown, ht⟩ (k3_append l D C b0 H.size h0 a0 a1 a2 a3 a4 a5 a6 a7 a8 a9 a10 a11 (u_2.2 3) f7 f8 f9 f10 f11 100 (hq_21.2)) (cwV 2 ht (xg_V m_307 m_308 m_309 m_258 m_172) rfl rfl rfl (by decide +kernel) ⟨Nat.le_of_ble_eq_true rfl, Nat.le_of_ble_eq_true rfl⟩) ⟨xPc_bl, va_recv hK hPc (ci := 3) (q0 := 0) rfl rfl, xPc_at hPc hK hDc hE hS hAb⟩ rfl rfl hl.1 rfl (lv_room (Nat.le_of_ble_eq_true rfl)) dX3_addArray_29 ⟨(by decide), (by decide)⟩) hS (fun q _ h => hFc q h) hFc (fun r_3 u_4 t H1 locs ht1 hvm hw hB hz1 hk1 hS => ?_)
  obtain ⟨hP1, hD1⟩ := hB
  rw [ht1] at hP1
  try dsimp only at hw
  obtain ⟨hP, hD⟩ := va_join (wr := [(a0, .inl (C 0, 600, .inl (u_2.2 0))), (a1, .inl (C 0, 600, .inl (u_2.2 1))), (a2, .inl (C 1, 600, .inl (u_2.2 2)))]) (w1 := [(h0, .inr (3, [.ref a0, .ref a1, .ref a2, .ref a3, .ref a4, .ref a5, .ref a6, .int 1, .ref a7, .ref a8, .ref a9, .ref a10, .ref a11, .int (u_4.2 6 0)])), (a3, .inl (C 0, 600, .inl (u_4.2 0))), (a7, .inl (C 0, 5999, .inl (u_4.2 1))), (a8, .inl (C 0, 5999, .inl (u_4.2 2))), (a9, .inl (C 0, 5999, .inl (u_4.2 3))), (a10, .inl (C 0, 5999, .inl (u_4.2 4))), (a11, .inl (C 0, 5999, .inl (u_4.2 5)))]) hP hD [5, 9, 0, 1, 2, 3, 4] [6, 7, 8] rfl rfl (by decide) (by decide) hk1 hFc hP1 hD1
  generalize H1 = H at hP hS ⊢
  have hP : va_P D vwCl [(a0, .inl (C 0, 600, .inl (u_2.2 0))), (a1, .inl (C 0, 600, .inl (u_2.2 1))), (a2, .inl (C 1, 600, .inl (u_2.2 2))), (h0, .inr (3, [.ref a0, .ref a1, .ref a2, .ref a3, .ref a4, .ref a5, .ref a6, .int 1, .ref a7, .ref a8, .ref a9, .ref a10, .ref a11, .int (u_4.2 6 0)])), (a3, .inl (C 0, 600, .inl (u_4.2 0))), (a7, .inl (C 0, 5999, .inl (u_4.2 1))), (a8, .inl (C 0, 5999, .inl (u_4.2 2))), (a9, .inl (C 0, 5999, .inl (u_4.2 3))), (a10, .inl (C 0, 5999, .inl (u_4.2 4))), (a11, .inl (C 0, 5999, .inl (u_4.2 5)))] H := hP
  have hD : va_D A [(a0, .inl (C 0, 600, .inl (u_2.2 0))), (a1, .inl (C 0, 600, .inl (u_2.2 1))), (a2, .inl (C 1, 600, .inl (u_2.2 2))), (h0, .inr (3, [.ref a0, .ref a1, .ref a2, .ref a3, .ref a4, .ref a5, .ref a6, .int 1, .ref a7, .ref a8, .ref a9, .ref a10, .ref a11, .int (u_4.2 6 0)])), (a3, .inl (C 0, 600, .inl (u_4.2 0))), (a7, .inl (C 0, 5999, .inl (u_4.2 1))), (a8, .inl (C 0, 5999, .inl (u_4.2 2))), (a9, .inl (C 0, 5999, .inl (u_4.2 3))), (a10, .inl (C 0, 5999, .inl (u_4.2 4))), (a11, .inl (C 0, 5999, .inl (u_4.2 5)))] := hD
  have hq_29 := hw
  obtain rfl : r_3 = (0 : Int32) := hw
  refine lv_istore_n (lv' := [(3, .int 0), (2, .int (-2)), (0, .ref h0), (1, .int nn)]) hx hb dX3_addArray_32 rfl hl (by decide) rfl (fun ls hl => ?_)
  refine lv_aload_n hx hb dX3_addArray_33 rfl (lv_at hl 2 rfl) ?_
  refine lv_iload_n hx hb dX3_addArray_34 rfl (lv_at hl 0 rfl) ?_
  refine lv_iload_n hx hb dX3_addArray_35 rfl (lv_at hl 3 rfl) ?_
  have hPc := hP.sub (ws' := [(h0, .inr (3, [.ref a0, .ref a1, .ref a2, .ref a3, .ref a4, .ref a5, .ref a6, .int 1, .ref a7, .ref a8, .ref a9, .ref a10, .ref a11, .int (u_4.2 6 0)])), (a8, .inl (C 0, 5999, .inl (u_4.2 2)))]) [3, 6] rfl
  have hDc := hD.sub (ws' := [(h0, .inr (3, [.ref a0, .ref a1, .ref a2, .ref a3, .ref a4, .ref a5, .ref a6, .int 1, .ref a7, .ref a8, .ref a9, .ref a10, .ref a11, .int (u_4.2 6 0)])), (a8, .inl (C 0, 5999, .inl (u_4.2 2)))]) [3, 6] (by decide) rfl
  have hFc := va_free (wc := [(h0, .inr (3, [.ref a0, .ref a1, .ref a2, .ref a3, .ref a4, .ref a5, .ref a6, .int 1, .ref a7, .ref a8, .ref a9, .ref a10, .ref a11, .int (u_4.2 6 0)])), (a8, .inl (C 0, 5999, .inl (u_4.2 2)))]) hD hS hA [3, 6] rfl
  refine va_callv (va_runV (As := [.int 0, .int nn]) (rest := []) ⟨hx, hb, hml, hown, ht⟩ (k3_putValueAt l D C b0 H.size h0 a0 a1 a2 a3 a4 a5 a6 a7 a8 a9 a10 a11 (u_4.2 2) (u_4.2 6 0) nn) (cwV 2 ht (xg_V m_310 m_311 m_312 m_258 m_173) rfl rfl rfl (by decide +kernel) ⟨Nat.le_of_ble_eq_true rfl, Nat.le_of_ble_eq_true rfl⟩) ⟨xPc_bl, va_recv hK hPc (ci := 3) (q0 := 0) rfl rfl, xPc_at hPc hK hDc hE hS hAb⟩ rfl rfl hl.1 rfl (lv_room (Nat.le_of_ble_eq_true rfl)) dX3_addArray_36 ⟨(by decide), (by decide)⟩) hS (fun q _ h => hFc q h) hFc (fun u_5 t H1 locs ht1 hvm hw hB hz1 hk1 hS => ?_)
  obtain ⟨hP1, hD1⟩ := hB
  rw [ht1] at hP1
  try dsimp only at hw
  obtain ⟨hP, hD⟩ := va_join (wr := [(a0, .inl (C 0, 600, .inl (u_2.2 0))), (a1, .inl (C 0, 600, .inl (u_2.2 1))), (a2, .inl (C 1, 600, .inl (u_2.2 2))), (a3, .inl (C 0, 600, .inl (u_4.2 0))), (a7, .inl (C 0, 5999, .inl (u_4.2 1))), (a9, .inl (C 0, 5999, .inl (u_4.2 3))), (a10, .inl (C 0, 5999, .inl (u_4.2 4))), (a11, .inl (C 0, 5999, .inl (u_4.2 5)))]) (w1 := [(h0, .inr (3, [.ref a0, .ref a1, .ref a2, .ref a3, .ref a4, .ref a5, .ref a6, .int 1, .ref a7, .ref a8, .ref a9, .ref a10, .ref a11, .int (u_4.2 6 0)])), (a8, .inl (C 0, 5999, .inl (u_5.2 0)))]) hP hD [3, 6] [0, 1, 2, 4, 5, 7, 8, 9] rfl rfl (by decide) (by decide) hk1 hFc hP1 hD1
  generalize H1 = H at hP hS ⊢
  have hP : va_P D vwCl [(a0, .inl (C 0, 600, .inl (u_2.2 0))), (a1, .inl (C 0, 600, .inl (u_2.2 1))), (a2, .inl (C 1, 600, .inl (u_2.2 2))), (a3, .inl (C 0, 600, .inl (u_4.2 0))), (a7, .inl (C 0, 5999, .inl (u_4.2 1))), (a9, .inl (C 0, 5999, .inl (u_4.2 3))), (a10, .inl (C 0, 5999, .inl (u_4.2 4))), (a11, .inl (C 0, 5999, .inl (u_4.2 5))), (h0, .inr (3, [.ref a0, .ref a1, .ref a2, .ref a3, .ref a4, .ref a5, .ref a6, .int 1, .ref a7, .ref a8, .ref a9, .ref a10, .ref a11, .int (u_4.2 6 0)])), (a8, .inl (C 0, 5999, .inl (u_5.2 0)))] H := hP
  have hD : va_D A [(a0, .inl (C 0, 600, .inl (u_2.2 0))), (a1, .inl (C 0, 600, .inl (u_2.2 1))), (a2, .inl (C 1, 600, .inl (u_2.2 2))), (a3, .inl (C 0, 600, .inl (u_4.2 0))), (a7, .inl (C 0, 5999, .inl (u_4.2 1))), (a9, .inl (C 0, 5999, .inl (u_4.2 3))), (a10, .inl (C 0, 5999, .inl (u_4.2 4))), (a11, .inl (C 0, 5999, .inl (u_4.2 5))), (h0, .inr (3, [.ref a0, .ref a1, .ref a2, .ref a3, .ref a4, .ref a5, .ref a6, .int 1, .ref a7, .ref a8, .ref a9, .ref a10, .ref a11, .int (u_4.2 6 0)])), (a8, .inl (C 0, 5999, .inl (u_5.2 0)))] := hD
  have hq_36 := hw
  refine lv_aload_n hx hb dX3_addArray_39 rfl (lv_at hl 2 rfl) ?_
  refine lv_iload_n hx hb dX3_addArray_40 rfl (lv_at hl 0 rfl) ?_
  refine lv_iconst (v := 2) hx hb dX3_addArray_41 (by decide) ?_
  have hPc := hP.sub (ws' := [(h0, .inr (3, [.ref a0, .ref a1, .ref a2, .ref a3, .ref a4, .ref a5, .ref a6, .int 1, .ref a7, .ref a8, .ref a9, .ref a10, .ref a11, .int (u_4.2 6 0)])), (a10, .inl (C 0, 5999, .inl (u_4.2 4)))]) [8, 6] rfl
  have hDc := hD.sub (ws' := [(h0, .inr (3, [.ref a0, .ref a1, .ref a2, .ref a3, .ref a4, .ref a5, .ref a6, .int 1, .ref a7, .ref a8, .ref a9, .ref a10, .ref a11, .int (u_4.2 6 0)])), (a10, .inl (C 0, 5999, .inl (u_4.2 4)))]) [8, 6] (by decide) rfl
  have hFc := va_free (wc := [(h0, .inr (3, [.ref a0, .ref a1, .ref a2, .ref a3, .ref a4, .ref a5, .ref a6, .int 1, .ref a7, .ref a8, .ref a9, .ref a10, .ref a11, .int (u_4.2 6 0)])), (a10, .inl (C 0, 5999, .inl (u_4.2 4)))]) hD hS hA [8, 6] rfl
  refine va_callv (va_runV (As := [.int 0, .int 2]) (rest := []) ⟨hx, hb, hml, hown, ht⟩ (k3_putFlagsAt l D C b0 H.size h0 a0 a1 a2 a3 a4 a5 a6 a7 a8 a9 a10 a11 (u_4.2 4) (u_4.2 6 0) 2) (cwV 2 ht (xg_V m_313 m_314 m_315 m_258 m_174) rfl rfl rfl (by decide +kernel) ⟨Nat.le_of_ble_eq_true rfl, Nat.le_of_ble_eq_true rfl⟩) ⟨xPc_bl, va_recv hK hPc (ci := 3) (q0 := 0) rfl rfl, xPc_at hPc hK hDc hE hS hAb⟩ rfl rfl hl.1 rfl (lv_room (Nat.le_of_ble_eq_true rfl)) dX3_addArray_42 ⟨(by decide), (by decide)⟩) hS (fun q _ h => hFc q h) hFc (fun u_6 t H1 locs ht1 hvm hw hB hz1 hk1 hS => ?_)
  obtain ⟨hP1, hD1⟩ := hB
  rw [ht1] at hP1
  try dsimp only at hw
  obtain ⟨hP, hD⟩ := va_join (wr := [(a0, .inl (C 0, 600, .inl (u_2.2 0))), (a1, .inl (C 0, 600, .inl (u_2.2 1))), (a2, .inl (C 1, 600, .inl (u_2.2 2))), (a3, .inl (C 0, 600, .inl (u_4.2 0))), (a7, .inl (C 0, 5999, .inl (u_4.2 1))), (a9, .inl (C 0, 5999, .inl (u_4.2 3))), (a11, .inl (C 0, 5999, .inl (u_4.2 5))), (a8, .inl (C 0, 5999, .inl (u_5.2 0)))]) (w1 := [(h0, .inr (3, [.ref a0, .ref a1, .ref a2, .ref a3, .ref a4, .ref a5, .ref a6, .int 1, .ref a7, .ref a8, .ref a9, .ref a10, .ref a11, .int (u_4.2 6 0)])), (a10, .inl (C 0, 5999, .inl (u_6.2 0)))]) hP hD [8, 6] [0, 1, 2, 3, 4, 5, 7, 9] rfl rfl (by decide) (by decide) hk1 hFc hP1 hD1
  generalize H1 = H at hP hS ⊢
  have hP : va_P D vwCl [(a0, .inl (C 0, 600, .inl (u_2.2 0))), (a1, .inl (C 0, 600, .inl (u_2.2 1))), (a2, .inl (C 1, 600, .inl (u_2.2 2))), (a3, .inl (C 0, 600, .inl (u_4.2 0))), (a7, .inl (C 0, 5999, .inl (u_4.2 1))), (a9, .inl (C 0, 5999, .inl (u_4.2 3))), (a11, .inl (C 0, 5999, .inl (u_4.2 5))), (a8, .inl (C 0, 5999, .inl (u_5.2 0))), (h0, .inr (3, [.ref a0, .ref a1, .ref a2, .ref a3, .ref a4, .ref a5, .ref a6, .int 1, .ref a7, .ref a8, .ref a9, .ref a10, .ref a11, .int (u_4.2 6 0)])), (a10, .inl (C 0, 5999, .inl (u_6.2 0)))] H := hP
  have hD : va_D A [(a0, .inl (C 0, 600, .inl (u_2.2 0))), (a1, .inl (C 0, 600, .inl (u_2.2 1))), (a2, .inl (C 1, 600, .inl (u_2.2 2))), (a3, .inl (C 0, 600, .inl (u_4.2 0))), (a7, .inl (C 0, 5999, .inl (u_4.2 1))), (a9, .inl (C 0, 5999, .inl (u_4.2 3))), (a11, .inl (C 0, 5999, .inl (u_4.2 5))), (a8, .inl (C 0, 5999, .inl (u_5.2 0))), (h0, .inr (3, [.ref a0, .ref a1, .ref a2, .ref a3, .ref a4, .ref a5, .ref a6, .int 1, .ref a7, .ref a8, .ref a9, .ref a10, .ref a11, .int (u_4.2 6 0)])), (a10, .inl (C 0, 5999, .inl (u_6.2 0)))] := hD
  have hq_42 := hw
  refine lv_iload_n hx hb dX3_addArray_45 rfl (lv_at hl 1 rfl) ?_
  have hP9 := hP.sub (ws' := []) [] rfl
  have hD9 := hD.sub (ws' := []) [] (by decide) rfl
  refine W.widen (k := 0) (n := 0) (by decide) (by decide) ?_
  exact W.iret (v := (-2)) hx hb hr (fun t ht1 hW => ⟨⟨(-2), (xA [], xF []), rfl, by first | trivial | rfl | assumption | decide | (simp_all; done), by rw [ht1]; exact hP9, hD9⟩, hS.F ht1⟩) hS.2.2 dX3_addArray_46
set_option maxHeartbeats 4000000 in
set_option maxRecDepth 100000 in
theorem k3_putParts (l : Launch) (D : va_G) (C : Nat → ClassId) (b0 sz : Nat) (h0 : Nat) (a0 : Nat) (a1 : Nat) (a2 : Nat) (a3 : Nat) (a4 : Nat) (a5 : Nat) (a6 : Nat) (a7 : Nat) (a8 : Nat) (a9 : Nat) (a10 : Nat) (a11 : Nat) (f4 : Nat → Int32) (f5 : Nat → Int32) (f6 : Nat → Int32) (ff : Int32) (va : Int32) (vb : Int32) (vc : Int32) : Met l yX3_putParts (xw yX3_putParts cX3_putParts 6 none) ({ frames := 16, cells := 0, slots := 0, locals := 300 }) (xPc D C b0 [.ref h0, .int (-2), .int va, .int vb, .int vc] [(h0, .inr (3, [.ref a0, .ref a1, .ref a2, .ref a3, .ref a4, .ref a5, .ref a6, .int 1, .ref a7, .ref a8, .ref a9, .ref a10, .ref a11, .int ff])), (a4, .inl (C 0, 600, .inl f4)), (a5, .inl (C 0, 600, .inl f5)), (a6, .inl (C 0, 600, .inl f6))] sz) (va_Qv (fun u : xS => True) (xBw D (va_A [(h0, .inr (3, [.ref a0, .ref a1, .ref a2, .ref a3, .ref a4, .ref a5, .ref a6, .int 1, .ref a7, .ref a8, .ref a9, .ref a10, .ref a11, .int ff])), (a4, .inl (C 0, 600, .inl f4)), (a5, .inl (C 0, 600, .inl f5)), (a6, .inl (C 0, 600, .inl f6))] sz) (fun u => [])) (va_A [(h0, .inr (3, [.ref a0, .ref a1, .ref a2, .ref a3, .ref a4, .ref a5, .ref a6, .int 1, .ref a7, .ref a8, .ref a9, .ref a10, .ref a11, .int ff])), (a4, .inl (C 0, 600, .inl f4)), (a5, .inl (C 0, 600, .inl f5)), (a6, .inl (C 0, 600, .inl f6))] sz)) 0 0 (va_A [(h0, .inr (3, [.ref a0, .ref a1, .ref a2, .ref a3, .ref a4, .ref a5, .ref a6, .int 1, .ref a7, .ref a8, .ref a9, .ref a10, .ref a11, .int ff])), (a4, .inl (C 0, 600, .inl f4)), (a5, .inl (C 0, 600, .inl f5)), (a6, .inl (C 0, 600, .inl f6))] sz) := by
  refine Met.ofW (cc := cX3_putParts) (maxL := 6) (ret := none) (by decide) rfl ?_
  intro p e s m args below meth c s₁ B hml hv
  obtain ⟨rfl, hsz, hP, hK, hD0, hE⟩ := hv
  have hx := B.exec
  have hb := B.bytes
  have hr := B.returns
  have ht : ∀ w ∈ xb, w.before _ s = true := fun w h => atoms_spec (ws := xw yX3_putParts cX3_putParts 6 none) B.pre w (List.mem_cons_of_mem _ h)
  have hown : s.vm.findClass RX3 = some m.cls := findClass_of_methodNamed B.named
  have hlocks := B.notSynchronized
  subst hsz
  have hAb := x_Ab hD0 hE.1
  have hD := hD0.self (sz := s.heap.size)
  generalize hAe : va_A [(h0, .inr (3, [.ref a0, .ref a1, .ref a2, .ref a3, .ref a4, .ref a5, .ref a6, .int 1, .ref a7, .ref a8, .ref a9, .ref a10, .ref a11, .int ff])), (a4, .inl (C 0, 600, .inl f4)), (a5, .inl (C 0, 600, .inl f5)), (a6, .inl (C 0, 600, .inl f6))] s.heap.size = A at hD hAb ⊢
  have hA : ∀ q : Nat, s.heap.size ≤ q → A q := fun q h => by rw [← hAe]; exact Or.inr h
  have hS : va_S A s.heap s.heap [] := va_S.rf
  have hP : va_P D vwCl [(h0, .inr (3, [.ref a0, .ref a1, .ref a2, .ref a3, .ref a4, .ref a5, .ref a6, .int 1, .ref a7, .ref a8, .ref a9, .ref a10, .ref a11, .int ff])), (a4, .inl (C 0, 600, .inl f4)), (a5, .inl (C 0, 600, .inl f5)), (a6, .inl (C 0, 600, .inl f6))] s.heap := hP
  have hl := lv_entry ([.ref h0, .int (-2), .int va, .int vb, .int vc]) (n := 6) (Nat.le_of_ble_eq_true rfl)
  rw [lg_entry_eq]
  generalize (lg_sl ([.ref h0, .int (-2), .int va, .int vb, .int vc]) ++ List.replicate (6 - (lg_sl ([.ref h0, .int (-2), .int va, .int vb, .int vc])).length) Slot.unset).toArray = ls at hl ⊢
  have hl : lv_has ls 6 [(0, .ref h0), (1, .int (-2)), (2, .int va), (3, .int vb), (4, .int vc)] := hl
  refine lv_aload_n hx hb dX3_putParts_0 rfl (lv_at hl 0 rfl) ?_
  refine lv_iload_n hx hb dX3_putParts_1 rfl (lv_at hl 1 rfl) ?_
  have hPc := hP.sub (ws' := [(h0, .inr (3, [.ref a0, .ref a1, .ref a2, .ref a3, .ref a4, .ref a5, .ref a6, .int 1, .ref a7, .ref a8, .ref a9, .ref a10, .ref a11, .int ff]))]) [0] rfl
  have hDc := hD.sub (ws' := [(h0, .inr (3, [.ref a0, .ref a1, .ref a2, .ref a3, .ref a4, .ref a5, .ref a6, .int 1, .ref a7, .ref a8, .ref a9, .ref a10, .ref a11, .int ff]))]) [0] (by decide) rfl
  have hFc := va_free (wc := [(h0, .inr (3, [.ref a0, .ref a1, .ref a2, .ref a3, .ref a4, .ref a5, .ref a6, .int 1, .ref a7, .ref a8, .ref a9, .ref a10, .ref a11, .int ff]))]) hD hS hA [0] rfl
  refine va_calli (va_runV (As := [.int (-2)]) (rest := []) ⟨hx, hb, hml, hown, ht⟩ (k3_rowOf1 l D C b0 s.heap.size h0 a0 a1 a2 a3 a4 a5 a6 a7 a8 a9 a10 a11 ff) (cwV 1 ht (xg_V m_255 m_256 m_257 m_258 m_157) rfl rfl rfl (by decide +kernel) ⟨Nat.le_of_ble_eq_true rfl, Nat.le_of_ble_eq_true rfl⟩) ⟨xPc_bl, va_recv hK hPc (ci := 3) (q0 := 0) rfl rfl, xPc_at hPc hK hDc hE hS hAb⟩ rfl rfl hl.1 rfl (lv_room (Nat.le_of_ble_eq_true rfl)) dX3_putParts_2 ⟨(by decide), (by decide)⟩) hS (fun q _ h => hFc q h) hFc (fun r_1 u_2 t H1 locs ht1 hvm hw hB hz1 hk1 hS => ?_)
  obtain ⟨hP1, hD1⟩ := hB
  rw [ht1] at hP1
  try dsimp only at hw
  obtain ⟨hP, hD⟩ := va_join (wr := [(a4, .inl (C 0, 600, .inl f4)), (a5, .inl (C 0, 600, .inl f5)), (a6, .inl (C 0, 600, .inl f6))]) (w1 := [(h0, .inr (3, [.ref a0, .ref a1, .ref a2, .ref a3, .ref a4, .ref a5, .ref a6, .int 1, .ref a7, .ref a8, .ref a9, .ref a10, .ref a11, .int ff]))]) hP hD [0] [1, 2, 3] rfl rfl (by decide) (by decide) hk1 hFc hP1 hD1
  generalize H1 = H at hP hS ⊢
  have hP : va_P D vwCl [(a4, .inl (C 0, 600, .inl f4)), (a5, .inl (C 0, 600, .inl f5)), (a6, .inl (C 0, 600, .inl f6)), (h0, .inr (3, [.ref a0, .ref a1, .ref a2, .ref a3, .ref a4, .ref a5, .ref a6, .int 1, .ref a7, .ref a8, .ref a9, .ref a10, .ref a11, .int ff]))] H := hP
  have hD : va_D A [(a4, .inl (C 0, 600, .inl f4)), (a5, .inl (C 0, 600, .inl f5)), (a6, .inl (C 0, 600, .inl f6)), (h0, .inr (3, [.ref a0, .ref a1, .ref a2, .ref a3, .ref a4, .ref a5, .ref a6, .int 1, .ref a7, .ref a8, .ref a9, .ref a10, .ref a11, .int ff]))] := hD
  have hq_2 := hw
  obtain rfl : r_1 = (0 : Int32) := hw
  refine lv_istore (lv' := [(5, .int 0), (0, .ref h0), (1, .int (-2)), (2, .int va), (3, .int vb), (4, .int vc)]) hx hb dX3_putParts_5 hl (by decide) rfl (fun ls hl => ?_)
  refine lv_iload hx hb dX3_putParts_7 (lv_at hl 0 rfl) ?_
  refine lv_if_lt (tgt := 37) hx hb dX3_putParts_9 (by decide) (fun c_9 => ?_) (fun c_9 => ?_)
  · exact absurd c_9 (by decide)
  refine lv_aload_n hx hb dX3_putParts_12 rfl (lv_at hl 1 rfl) ?_
  refine va_get (D := D) (ci := 3) (v := .ref a4) (C := RX3) (T := TX3) (N := 14) hx hb ht inX3 hown hK hP 3 rfl rfl 4 (by decide) (ht _ m_316) (fun _ h9 => h9) rfl dX3_putParts_13 ?_
  refine lv_iload hx hb dX3_putParts_16 (lv_at hl 0 rfl) ?_
  refine lv_iload_n hx hb dX3_putParts_18 rfl (lv_at hl 3 rfl) ?_
  refine va_iast hx hb hK hP hD hS 0 0 rfl rfl (by unfold vp_in; decide) dX3_putParts_19 (fun H locs hP hD hS => ?_)
  have hP : va_P D vwCl [(a4, .inl (C 0, 600, .inl ((upd f4 (Int32.toNatClampNeg 0) va)))), (a5, .inl (C 0, 600, .inl f5)), (a6, .inl (C 0, 600, .inl f6)), (h0, .inr (3, [.ref a0, .ref a1, .ref a2, .ref a3, .ref a4, .ref a5, .ref a6, .int 1, .ref a7, .ref a8, .ref a9, .ref a10, .ref a11, .int ff]))] H := hP
  have hD : va_D A [(a4, .inl (C 0, 600, .inl ((upd f4 (Int32.toNatClampNeg 0) va)))), (a5, .inl (C 0, 600, .inl f5)), (a6, .inl (C 0, 600, .inl f6)), (h0, .inr (3, [.ref a0, .ref a1, .ref a2, .ref a3, .ref a4, .ref a5, .ref a6, .int 1, .ref a7, .ref a8, .ref a9, .ref a10, .ref a11, .int ff]))] := hD
  refine lv_aload_n hx hb dX3_putParts_20 rfl (lv_at hl 1 rfl) ?_
  refine va_get (D := D) (ci := 3) (v := .ref a5) (C := RX3) (T := TX3) (N := 14) hx hb ht inX3 hown hK hP 3 rfl rfl 5 (by decide) (ht _ m_317) (fun _ h9 => h9) rfl dX3_putParts_21 ?_
  refine lv_iload hx hb dX3_putParts_24 (lv_at hl 0 rfl) ?_
  refine lv_iload_n hx hb dX3_putParts_26 rfl (lv_at hl 4 rfl) ?_
  refine va_iast hx hb hK hP hD hS 1 0 rfl rfl (by unfold vp_in; decide) dX3_putParts_27 (fun H locs hP hD hS => ?_)
  have hP : va_P D vwCl [(a4, .inl (C 0, 600, .inl ((upd f4 (Int32.toNatClampNeg 0) va)))), (a5, .inl (C 0, 600, .inl ((upd f5 (Int32.toNatClampNeg 0) vb)))), (a6, .inl (C 0, 600, .inl f6)), (h0, .inr (3, [.ref a0, .ref a1, .ref a2, .ref a3, .ref a4, .ref a5, .ref a6, .int 1, .ref a7, .ref a8, .ref a9, .ref a10, .ref a11, .int ff]))] H := hP
  have hD : va_D A [(a4, .inl (C 0, 600, .inl ((upd f4 (Int32.toNatClampNeg 0) va)))), (a5, .inl (C 0, 600, .inl ((upd f5 (Int32.toNatClampNeg 0) vb)))), (a6, .inl (C 0, 600, .inl f6)), (h0, .inr (3, [.ref a0, .ref a1, .ref a2, .ref a3, .ref a4, .ref a5, .ref a6, .int 1, .ref a7, .ref a8, .ref a9, .ref a10, .ref a11, .int ff]))] := hD
  refine lv_aload_n hx hb dX3_putParts_28 rfl (lv_at hl 1 rfl) ?_
  refine va_get (D := D) (ci := 3) (v := .ref a6) (C := RX3) (T := TX3) (N := 14) hx hb ht inX3 hown hK hP 3 rfl rfl 6 (by decide) (ht _ m_318) (fun _ h9 => h9) rfl dX3_putParts_29 ?_
  refine lv_iload hx hb dX3_putParts_32 (lv_at hl 0 rfl) ?_
  refine lv_iload hx hb dX3_putParts_34 (lv_at hl 5 rfl) ?_
  refine va_iast hx hb hK hP hD hS 2 0 rfl rfl (by unfold vp_in; decide) dX3_putParts_36 (fun H locs hP hD hS => ?_)
  have hP : va_P D vwCl [(a4, .inl (C 0, 600, .inl ((upd f4 (Int32.toNatClampNeg 0) va)))), (a5, .inl (C 0, 600, .inl ((upd f5 (Int32.toNatClampNeg 0) vb)))), (a6, .inl (C 0, 600, .inl ((upd f6 (Int32.toNatClampNeg 0) vc)))), (h0, .inr (3, [.ref a0, .ref a1, .ref a2, .ref a3, .ref a4, .ref a5, .ref a6, .int 1, .ref a7, .ref a8, .ref a9, .ref a10, .ref a11, .int ff]))] H := hP
  have hD : va_D A [(a4, .inl (C 0, 600, .inl ((upd f4 (Int32.toNatClampNeg 0) va)))), (a5, .inl (C 0, 600, .inl ((upd f5 (Int32.toNatClampNeg 0) vb)))), (a6, .inl (C 0, 600, .inl ((upd f6 (Int32.toNatClampNeg 0) vc)))), (h0, .inr (3, [.ref a0, .ref a1, .ref a2, .ref a3, .ref a4, .ref a5, .ref a6, .int 1, .ref a7, .ref a8, .ref a9, .ref a10, .ref a11, .int ff]))] := hD
  have hP9 := hP.sub (ws' := []) [] rfl
  have hD9 := hD.sub (ws' := []) [] (by decide) rfl
  refine W.widen (k := 0) (n := 0) (by decide) (by decide) ?_
  exact W.vret hx hb hr (fun t ht1 hW => ⟨⟨(xA [], xF []), rfl, by first | trivial | rfl | assumption | decide | (simp_all; done), by rw [ht1]; exact hP9, hD9⟩, hS.F ht1⟩) hS.2.2 dX3_putParts_37
set_option maxHeartbeats 4000000 in
set_option maxRecDepth 100000 in
theorem k3_addFunction (l : Launch) (D : va_G) (C : Nat → ClassId) (b0 sz : Nat) (h0 : Nat) (a0 : Nat) (a1 : Nat) (a2 : Nat) (a3 : Nat) (a4 : Nat) (a5 : Nat) (a6 : Nat) (a7 : Nat) (a8 : Nat) (a9 : Nat) (a10 : Nat) (a11 : Nat) (f0 : Nat → Int32) (f1 : Nat → Int32) (f2 : Nat → Int32) (f3 : Nat → Int32) (f4 : Nat → Int32) (f5 : Nat → Int32) (f6 : Nat → Int32) (va : Int32) (vb : Int32) (vc : Int32) : Met l yX3_addFunction (xw yX3_addFunction cX3_addFunction 5 (some .int)) ({ frames := 24, cells := 0, slots := 0, locals := 450 }) (xPc D C b0 [.ref h0, .int va, .int vb, .int vc] [(h0, .inr (3, [.ref a0, .ref a1, .ref a2, .ref a3, .ref a4, .ref a5, .ref a6, .int 0, .ref a7, .ref a8, .ref a9, .ref a10, .ref a11, .int 0])), (a0, .inl (C 0, 600, .inl f0)), (a1, .inl (C 0, 600, .inl f1)), (a2, .inl (C 1, 600, .inl f2)), (a3, .inl (C 0, 600, .inl f3)), (a4, .inl (C 0, 600, .inl f4)), (a5, .inl (C 0, 600, .inl f5)), (a6, .inl (C 0, 600, .inl f6))] sz) (va_Qi (fun (r : Int32) (u : xS) => r = -2) (xBw D (va_A [(h0, .inr (3, [.ref a0, .ref a1, .ref a2, .ref a3, .ref a4, .ref a5, .ref a6, .int 0, .ref a7, .ref a8, .ref a9, .ref a10, .ref a11, .int 0])), (a0, .inl (C 0, 600, .inl f0)), (a1, .inl (C 0, 600, .inl f1)), (a2, .inl (C 1, 600, .inl f2)), (a3, .inl (C 0, 600, .inl f3)), (a4, .inl (C 0, 600, .inl f4)), (a5, .inl (C 0, 600, .inl f5)), (a6, .inl (C 0, 600, .inl f6))] sz) (fun u => [])) (va_A [(h0, .inr (3, [.ref a0, .ref a1, .ref a2, .ref a3, .ref a4, .ref a5, .ref a6, .int 0, .ref a7, .ref a8, .ref a9, .ref a10, .ref a11, .int 0])), (a0, .inl (C 0, 600, .inl f0)), (a1, .inl (C 0, 600, .inl f1)), (a2, .inl (C 1, 600, .inl f2)), (a3, .inl (C 0, 600, .inl f3)), (a4, .inl (C 0, 600, .inl f4)), (a5, .inl (C 0, 600, .inl f5)), (a6, .inl (C 0, 600, .inl f6))] sz)) 0 0 (va_A [(h0, .inr (3, [.ref a0, .ref a1, .ref a2, .ref a3, .ref a4, .ref a5, .ref a6, .int 0, .ref a7, .ref a8, .ref a9, .ref a10, .ref a11, .int 0])), (a0, .inl (C 0, 600, .inl f0)), (a1, .inl (C 0, 600, .inl f1)), (a2, .inl (C 1, 600, .inl f2)), (a3, .inl (C 0, 600, .inl f3)), (a4, .inl (C 0, 600, .inl f4)), (a5, .inl (C 0, 600, .inl f5)), (a6, .inl (C 0, 600, .inl f6))] sz) := by
  refine Met.ofW (cc := cX3_addFunction) (maxL := 5) (ret := (some .int)) (by decide) rfl ?_
  intro p e s m args below meth c s₁ B hml hv
  obtain ⟨rfl, hsz, hP, hK, hD0, hE⟩ := hv
  have hx := B.exec
  have hb := B.bytes
  have hr := B.returns
  have ht : ∀ w ∈ xb, w.before _ s = true := fun w h => atoms_spec (ws := xw yX3_addFunction cX3_addFunction 5 (some .int)) B.pre w (List.mem_cons_of_mem _ h)
  have hown : s.vm.findClass RX3 = some m.cls := findClass_of_methodNamed B.named
  have hlocks := B.notSynchronized
  subst hsz
  have hAb := x_Ab hD0 hE.1
  have hD := hD0.self (sz := s.heap.size)
  generalize hAe : va_A [(h0, .inr (3, [.ref a0, .ref a1, .ref a2, .ref a3, .ref a4, .ref a5, .ref a6, .int 0, .ref a7, .ref a8, .ref a9, .ref a10, .ref a11, .int 0])), (a0, .inl (C 0, 600, .inl f0)), (a1, .inl (C 0, 600, .inl f1)), (a2, .inl (C 1, 600, .inl f2)), (a3, .inl (C 0, 600, .inl f3)), (a4, .inl (C 0, 600, .inl f4)), (a5, .inl (C 0, 600, .inl f5)), (a6, .inl (C 0, 600, .inl f6))] s.heap.size = A at hD hAb ⊢
  have hA : ∀ q : Nat, s.heap.size ≤ q → A q := fun q h => by rw [← hAe]; exact Or.inr h
  have hS : va_S A s.heap s.heap [] := va_S.rf
  have hP : va_P D vwCl [(h0, .inr (3, [.ref a0, .ref a1, .ref a2, .ref a3, .ref a4, .ref a5, .ref a6, .int 0, .ref a7, .ref a8, .ref a9, .ref a10, .ref a11, .int 0])), (a0, .inl (C 0, 600, .inl f0)), (a1, .inl (C 0, 600, .inl f1)), (a2, .inl (C 1, 600, .inl f2)), (a3, .inl (C 0, 600, .inl f3)), (a4, .inl (C 0, 600, .inl f4)), (a5, .inl (C 0, 600, .inl f5)), (a6, .inl (C 0, 600, .inl f6))] s.heap := hP
  have hl := lv_entry ([.ref h0, .int va, .int vb, .int vc]) (n := 5) (Nat.le_of_ble_eq_true rfl)
  rw [lg_entry_eq]
  generalize (lg_sl ([.ref h0, .int va, .int vb, .int vc]) ++ List.replicate (5 - (lg_sl ([.ref h0, .int va, .int vb, .int vc])).length) Slot.unset).toArray = ls at hl ⊢
  have hl : lv_has ls 5 [(0, .ref h0), (1, .int va), (2, .int vb), (3, .int vc)] := hl
  refine lv_aload_n hx hb dX3_addFunction_0 rfl (lv_at hl 0 rfl) ?_
  refine lv_iconst (v := 3) hx hb dX3_addFunction_1 (by decide) ?_
  refine lv_iconst (v := (-1)) hx hb dX3_addFunction_2 (by decide) ?_
  have hPc := hP.sub (ws' := [(h0, .inr (3, [.ref a0, .ref a1, .ref a2, .ref a3, .ref a4, .ref a5, .ref a6, .int 0, .ref a7, .ref a8, .ref a9, .ref a10, .ref a11, .int 0])), (a0, .inl (C 0, 600, .inl f0)), (a1, .inl (C 0, 600, .inl f1)), (a2, .inl (C 1, 600, .inl f2)), (a3, .inl (C 0, 600, .inl f3))]) [0, 1, 2, 3, 4] rfl
  have hDc := hD.sub (ws' := [(h0, .inr (3, [.ref a0, .ref a1, .ref a2, .ref a3, .ref a4, .ref a5, .ref a6, .int 0, .ref a7, .ref a8, .ref a9, .ref a10, .ref a11, .int 0])), (a0, .inl (C 0, 600, .inl f0)), (a1, .inl (C 0, 600, .inl f1)), (a2, .inl (C 1, 600, .inl f2)), (a3, .inl (C 0, 600, .inl f3))]) [0, 1, 2, 3, 4] (by decide) rfl
  have hFc := va_free (wc := [(h0, .inr (3, [.ref a0, .ref a1, .ref a2, .ref a3, .ref a4, .ref a5, .ref a6, .int 0, .ref a7, .ref a8, .ref a9, .ref a10, .ref a11, .int 0])), (a0, .inl (C 0, 600, .inl f0)), (a1, .inl (C 0, 600, .inl f1)), (a2, .inl (C 1, 600, .inl f2)), (a3, .inl (C 0, 600, .inl f3))]) hD hS hA [0, 1, 2, 3, 4] rfl
  refine va_calli (va_runV (As := [.int 3, .int (-1)]) (rest := []) ⟨hx, hb, hml, hown, ht⟩ (k3_add l D C b0 s.heap.size h0 a0 a1 a2 a3 a4 a5 a6 a7 a8 a9 a10 a11 f0 f1 f2 f3 3 (-1)) (cwV 2 ht (xg_V m_286 m_287 m_288 m_258 m_167) rfl rfl rfl (by decide +kernel) ⟨Nat.le_of_ble_eq_true rfl, Nat.le_of_ble_eq_true rfl⟩) ⟨xPc_bl, va_recv hK hPc (ci := 3) (q0 := 0) rfl rfl, xPc_at hPc hK hDc hE hS hAb⟩ rfl rfl hl.1 rfl (lv_room (Nat.le_of_ble_eq_true rfl)) dX3_addFunction_3 ⟨(by decide), (by decide)⟩) hS (fun q _ h => hFc q h) hFc (fun r_1 u_2 t H1 locs ht1 hvm hw hB hz1 hk1 hS => ?_)
  obtain ⟨hP1, hD1⟩ := hB
  rw [ht1] at hP1
  try dsimp only at hw
  obtain ⟨hP, hD⟩ := va_join (wr := [(a4, .inl (C 0, 600, .inl f4)), (a5, .inl (C 0, 600, .inl f5)), (a6, .inl (C 0, 600, .inl f6))]) (w1 := [(h0, .inr (3, [.ref a0, .ref a1, .ref a2, .ref a3, .ref a4, .ref a5, .ref a6, .int 1, .ref a7, .ref a8, .ref a9, .ref a10, .ref a11, .int 0])), (a0, .inl (C 0, 600, .inl (u_2.2 0))), (a1, .inl (C 0, 600, .inl (u_2.2 1))), (a2, .inl (C 1, 600, .inl (u_2.2 2))), (a3, .inl (C 0, 600, .inl (u_2.2 3)))]) hP hD [0, 1, 2, 3, 4] [5, 6, 7] rfl rfl (by decide) (by decide) hk1 hFc hP1 hD1
  generalize H1 = H at hP hS ⊢
  have hP : va_P D vwCl [(a4, .inl (C 0, 600, .inl f4)), (a5, .inl (C 0, 600, .inl f5)), (a6, .inl (C 0, 600, .inl f6)), (h0, .inr (3, [.ref a0, .ref a1, .ref a2, .ref a3, .ref a4, .ref a5, .ref a6, .int 1, .ref a7, .ref a8, .ref a9, .ref a10, .ref a11, .int 0])), (a0, .inl (C 0, 600, .inl (u_2.2 0))), (a1, .inl (C 0, 600, .inl (u_2.2 1))), (a2, .inl (C 1, 600, .inl (u_2.2 2))), (a3, .inl (C 0, 600, .inl (u_2.2 3)))] H := hP
  have hD : va_D A [(a4, .inl (C 0, 600, .inl f4)), (a5, .inl (C 0, 600, .inl f5)), (a6, .inl (C 0, 600, .inl f6)), (h0, .inr (3, [.ref a0, .ref a1, .ref a2, .ref a3, .ref a4, .ref a5, .ref a6, .int 1, .ref a7, .ref a8, .ref a9, .ref a10, .ref a11, .int 0])), (a0, .inl (C 0, 600, .inl (u_2.2 0))), (a1, .inl (C 0, 600, .inl (u_2.2 1))), (a2, .inl (C 1, 600, .inl (u_2.2 2))), (a3, .inl (C 0, 600, .inl (u_2.2 3)))] := hD
  have hq_3 := hw
  obtain rfl : r_1 = (-2 : Int32) := hw.1
  refine lv_istore (lv' := [(4, .int (-2)), (0, .ref h0), (1, .int va), (2, .int vb), (3, .int vc)]) hx hb dX3_addFunction_6 hl (by decide) rfl (fun ls hl => ?_)
  refine lv_aload_n hx hb dX3_addFunction_8 rfl (lv_at hl 1 rfl) ?_
  refine lv_iload hx hb dX3_addFunction_9 (lv_at hl 0 rfl) ?_
  refine lv_iload_n hx hb dX3_addFunction_11 rfl (lv_at hl 2 rfl) ?_
  refine lv_iload_n hx hb dX3_addFunction_12 rfl (lv_at hl 3 rfl) ?_
  refine lv_iload_n hx hb dX3_addFunction_13 rfl (lv_at hl 4 rfl) ?_
  have hPc := hP.sub (ws' := [(h0, .inr (3, [.ref a0, .ref a1, .ref a2, .ref a3, .ref a4, .ref a5, .ref a6, .int 1, .ref a7, .ref a8, .ref a9, .ref a10, .ref a11, .int 0])), (a4, .inl (C 0, 600, .inl f4)), (a5, .inl (C 0, 600, .inl f5)), (a6, .inl (C 0, 600, .inl f6))]) [3, 0, 1, 2] rfl
  have hDc := hD.sub (ws' := [(h0, .inr (3, [.ref a0, .ref a1, .ref a2, .ref a3, .ref a4, .ref a5, .ref a6, .int 1, .ref a7, .ref a8, .ref a9, .ref a10, .ref a11, .int 0])), (a4, .inl (C 0, 600, .inl f4)), (a5, .inl (C 0, 600, .inl f5)), (a6, .inl (C 0, 600, .inl f6))]) [3, 0, 1, 2] (by decide) rfl
  have hFc := va_free (wc := [(h0, .inr (3, [.ref a0, .ref a1, .ref a2, .ref a3, .ref a4, .ref a5, .ref a6, .int 1, .ref a7, .ref a8, .ref a9, .ref a10, .ref a11, .int 0])), (a4, .inl (C 0, 600, .inl f4)), (a5, .inl (C 0, 600, .inl f5)), (a6, .inl (C 0, 600, .inl f6))]) hD hS hA [3, 0, 1, 2] rfl
  refine va_callv (va_runV (As := [.int (-2), .int va, .int vb, .int vc]) (rest := []) ⟨hx, hb, hml, hown, ht⟩ (k3_putParts l D C b0 H.size h0 a0 a1 a2 a3 a4 a5 a6 a7 a8 a9 a10 a11 f4 f5 f6 0 va vb vc) (cwV 4 ht (xg_V m_319 m_320 m_321 m_258 m_176) rfl rfl rfl (by decide +kernel) ⟨Nat.le_of_ble_eq_true rfl, Nat.le_of_ble_eq_true rfl⟩) ⟨xPc_bl, va_recv hK hPc (ci := 3) (q0 := 0) rfl rfl, xPc_at hPc hK hDc hE hS hAb⟩ rfl rfl hl.1 rfl (lv_room (Nat.le_of_ble_eq_true rfl)) dX3_addFunction_14 ⟨(by decide), (by decide)⟩) hS (fun q _ h => hFc q h) hFc (fun u_3 t H1 locs ht1 hvm hw hB hz1 hk1 hS => ?_)
  obtain ⟨hP1, hD1⟩ := hB
  rw [ht1] at hP1
  try dsimp only at hw
  obtain ⟨hP, hD⟩ := va_join (wr := [(a0, .inl (C 0, 600, .inl (u_2.2 0))), (a1, .inl (C 0, 600, .inl (u_2.2 1))), (a2, .inl (C 1, 600, .inl (u_2.2 2))), (a3, .inl (C 0, 600, .inl (u_2.2 3)))]) (w1 := []) hP hD [3, 0, 1, 2] [4, 5, 6, 7] rfl rfl (by decide) (by decide) hk1 hFc hP1 hD1
  generalize H1 = H at hP hS ⊢
  have hP : va_P D vwCl [(a0, .inl (C 0, 600, .inl (u_2.2 0))), (a1, .inl (C 0, 600, .inl (u_2.2 1))), (a2, .inl (C 1, 600, .inl (u_2.2 2))), (a3, .inl (C 0, 600, .inl (u_2.2 3)))] H := hP
  have hD : va_D A [(a0, .inl (C 0, 600, .inl (u_2.2 0))), (a1, .inl (C 0, 600, .inl (u_2.2 1))), (a2, .inl (C 1, 600, .inl (u_2.2 2))), (a3, .inl (C 0, 600, .inl (u_2.2 3)))] := hD
  have hq_14 := hw
  refine lv_iload hx hb dX3_addFunction_17 (lv_at hl 0 rfl) ?_
  have hP9 := hP.sub (ws' := []) [] rfl
  have hD9 := hD.sub (ws' := []) [] (by decide) rfl
  refine W.widen (k := 0) (n := 0) (by decide) (by decide) ?_
  exact W.iret (v := (-2)) hx hb hr (fun t ht1 hW => ⟨⟨(-2), (xA [], xF []), rfl, by first | trivial | rfl | assumption | decide | (simp_all; done), by rw [ht1]; exact hP9, hD9⟩, hS.F ht1⟩) hS.2.2 dX3_addFunction_19
set_option maxHeartbeats 4000000 in
set_option maxRecDepth 100000 in
theorem k5_requireValue (l : Launch) (hl0 : l.stackTraces = false) (D : va_G) (C : Nat → ClassId) (b0 sz : Nat) (h0 : Nat) (s0 : Nat) (de : Nat) (kl : Nat) (tl : Nat) (cu : Nat) (hk : Nat) (ca : Nat) (a0 : Nat) (a1 : Nat) (a2 : Nat) (a3 : Nat) (a4 : Nat) (a5 : Nat) (a6 : Nat) (a7 : Nat) (a8 : Nat) (a9 : Nat) (a10 : Nat) (a11 : Nat) (v0 : Int32) : vx_Met l yX5_requireValue (xw yX5_requireValue cX5_requireValue 3 none) ({ frames := 32, cells := 1, slots := 6, locals := 600 }) (xPc D C b0 [.ref h0, .int v0] [(h0, .inr (5, [.ref s0, .ref de, .ref kl, .ref tl, .ref cu, .ref hk, .ref ca, .int 0, .int 0, .int (-1), .int 0, .int 0])), (s0, .inr (3, [.ref a0, .ref a1, .ref a2, .ref a3, .ref a4, .ref a5, .ref a6, .int 0, .ref a7, .ref a8, .ref a9, .ref a10, .ref a11, .int 0]))] sz) (va_Qv (fun u : xS => ¬ v0 < -1 ∧ ¬ 1250 ≤ v0) (xBw D (va_A [(h0, .inr (5, [.ref s0, .ref de, .ref kl, .ref tl, .ref cu, .ref hk, .ref ca, .int 0, .int 0, .int (-1), .int 0, .int 0])), (s0, .inr (3, [.ref a0, .ref a1, .ref a2, .ref a3, .ref a4, .ref a5, .ref a6, .int 0, .ref a7, .ref a8, .ref a9, .ref a10, .ref a11, .int 0]))] sz) (fun u => [(h0, .inr (5, [.ref s0, .ref de, .ref kl, .ref tl, .ref cu, .ref hk, .ref ca, .int 0, .int 0, .int (-1), .int 0, .int 0])), (s0, .inr (3, [.ref a0, .ref a1, .ref a2, .ref a3, .ref a4, .ref a5, .ref a6, .int 0, .ref a7, .ref a8, .ref a9, .ref a10, .ref a11, .int 0]))])) (va_A [(h0, .inr (5, [.ref s0, .ref de, .ref kl, .ref tl, .ref cu, .ref hk, .ref ca, .int 0, .int 0, .int (-1), .int 0, .int 0])), (s0, .inr (3, [.ref a0, .ref a1, .ref a2, .ref a3, .ref a4, .ref a5, .ref a6, .int 0, .ref a7, .ref a8, .ref a9, .ref a10, .ref a11, .int 0]))] sz)) (xX xIAE (v0 < -1 ∨ ¬ ¬ 1250 ≤ v0) (va_A [(h0, .inr (5, [.ref s0, .ref de, .ref kl, .ref tl, .ref cu, .ref hk, .ref ca, .int 0, .int 0, .int (-1), .int 0, .int 0])), (s0, .inr (3, [.ref a0, .ref a1, .ref a2, .ref a3, .ref a4, .ref a5, .ref a6, .int 0, .ref a7, .ref a8, .ref a9, .ref a10, .ref a11, .int 0]))] sz)) 1 6 (va_A [(h0, .inr (5, [.ref s0, .ref de, .ref kl, .ref tl, .ref cu, .ref hk, .ref ca, .int 0, .int 0, .int (-1), .int 0, .int 0])), (s0, .inr (3, [.ref a0, .ref a1, .ref a2, .ref a3, .ref a4, .ref a5, .ref a6, .int 0, .ref a7, .ref a8, .ref a9, .ref a10, .ref a11, .int 0]))] sz) := by
  refine vx_ofW (cc := cX5_requireValue) (maxL := 3) (ret := none) (by decide) rfl ?_
  intro p e s m args below meth c s₁ B hml htab hv
  obtain ⟨rfl, hsz, hP, hK, hD0, hE⟩ := hv
  have hx := B.exec
  have hb := B.bytes
  have hr := B.returns
  have ht : ∀ w ∈ xb, w.before _ s = true := fun w h => atoms_spec (ws := xw yX5_requireValue cX5_requireValue 3 none) B.pre w (List.mem_cons_of_mem _ h)
  have hown : s.vm.findClass RX5 = some m.cls := findClass_of_methodNamed B.named
  have hlocks := B.notSynchronized
  subst hsz
  have hAb := x_Ab hD0 hE.1
  have hD := hD0.self (sz := s.heap.size)
  generalize hAe : va_A [(h0, .inr (5, [.ref s0, .ref de, .ref kl, .ref tl, .ref cu, .ref hk, .ref ca, .int 0, .int 0, .int (-1), .int 0, .int 0])), (s0, .inr (3, [.ref a0, .ref a1, .ref a2, .ref a3, .ref a4, .ref a5, .ref a6, .int 0, .ref a7, .ref a8, .ref a9, .ref a10, .ref a11, .int 0]))] s.heap.size = A at hD hAb ⊢
  have hA : ∀ q : Nat, s.heap.size ≤ q → A q := fun q h => by rw [← hAe]; exact Or.inr h
  have hS : va_S A s.heap s.heap [] := va_S.rf
  have hP : va_P D vwCl [(h0, .inr (5, [.ref s0, .ref de, .ref kl, .ref tl, .ref cu, .ref hk, .ref ca, .int 0, .int 0, .int (-1), .int 0, .int 0])), (s0, .inr (3, [.ref a0, .ref a1, .ref a2, .ref a3, .ref a4, .ref a5, .ref a6, .int 0, .ref a7, .ref a8, .ref a9, .ref a10, .ref a11, .int 0]))] s.heap := hP
  have hl := lv_entry ([.ref h0, .int v0]) (n := 3) (Nat.le_of_ble_eq_true rfl)
  rw [lg_entry_eq]
  generalize (lg_sl ([.ref h0, .int v0]) ++ List.replicate (3 - (lg_sl ([.ref h0, .int v0])).length) Slot.unset).toArray = ls at hl ⊢
  have hl : lv_has ls 3 [(0, .ref h0), (1, .int v0)] := hl
  refine lv_iload_n hx hb dX5_requireValue_0 rfl (lv_at hl 1 rfl) ?_
  refine lv_iconst (v := (-1)) hx hb dX5_requireValue_1 (by decide) ?_
  refine lv_icmp_lt (tgt := 16) hx hb dX5_requireValue_2 (by decide) (fun c_2 => ?_) (fun c_2 => ?_)
  · skip
    refine lv_iconst (v := 0) hx hb dX5_requireValue_16 (by decide) ?_
    refine lv_istore_n (lv' := [(2, .int 0), (0, .ref h0), (1, .int v0)]) hx hb dX5_requireValue_17 rfl hl (by decide) rfl (fun ls hl => ?_)
    refine lv_iload_n hx hb dX5_requireValue_18 rfl (lv_at hl 0 rfl) ?_
    refine lv_if_ne (tgt := 43) hx hb dX5_requireValue_19 (by decide) (fun c_19 => ?_) (fun c_19 => ?_)
    · exact absurd c_19 (by decide)
    refine lv_aload_n hx hb dX5_requireValue_22 rfl (lv_at hl 1 rfl) ?_
    refine va_get (D := D) (ci := 5) (v := .ref s0) (C := RX5) (T := TX5) (N := 12) hx hb ht inX5 hown hK hP 0 rfl rfl 0 (by decide) (ht _ m_274) (fun _ h9 => h9) rfl dX5_requireValue_23 ?_
    refine lv_iload_n hx hb dX5_requireValue_26 rfl (lv_at hl 2 rfl) ?_
    have hPc := hP.sub (ws' := [(s0, .inr (3, [.ref a0, .ref a1, .ref a2, .ref a3, .ref a4, .ref a5, .ref a6, .int 0, .ref a7, .ref a8, .ref a9, .ref a10, .ref a11, .int 0]))]) [1] rfl
    have hDc := hD.sub (ws' := [(s0, .inr (3, [.ref a0, .ref a1, .ref a2, .ref a3, .ref a4, .ref a5, .ref a6, .int 0, .ref a7, .ref a8, .ref a9, .ref a10, .ref a11, .int 0]))]) [1] (by decide) rfl
    have hFc := va_free (wc := [(s0, .inr (3, [.ref a0, .ref a1, .ref a2, .ref a3, .ref a4, .ref a5, .ref a6, .int 0, .ref a7, .ref a8, .ref a9, .ref a10, .ref a11, .int 0]))]) hD hS hA [1] rfl
    refine va_calli (va_runV (As := [.int v0]) (rest := []) ⟨hx, hb, hml, hown, ht⟩ (k3_isObject0 l D C b0 s.heap.size s0 a0 a1 a2 a3 a4 a5 a6 a7 a8 a9 a10 a11 v0) (cwV 1 ht (xg_V m_275 m_276 m_277 m_258 m_158) rfl rfl rfl (by decide +kernel) ⟨Nat.le_of_ble_eq_true rfl, Nat.le_of_ble_eq_true rfl⟩) ⟨xPc_bl, va_recv hK hPc (ci := 3) (q0 := 0) rfl rfl, xPc_at hPc hK hDc hE hS hAb⟩ rfl rfl hl.1 rfl (lv_room (Nat.le_of_ble_eq_true rfl)) dX5_requireValue_27 ⟨(by decide), (by decide)⟩) hS (fun q _ h => hFc q h) hFc (fun r_1 u_2 t H1 locs ht1 hvm hw hB hz1 hk1 hS => ?_)
    obtain ⟨hP1, hD1⟩ := hB
    rw [ht1] at hP1
    try dsimp only at hw
    obtain ⟨hP, hD⟩ := va_join (wr := [(h0, .inr (5, [.ref s0, .ref de, .ref kl, .ref tl, .ref cu, .ref hk, .ref ca, .int 0, .int 0, .int (-1), .int 0, .int 0]))]) (w1 := [(s0, .inr (3, [.ref a0, .ref a1, .ref a2, .ref a3, .ref a4, .ref a5, .ref a6, .int 0, .ref a7, .ref a8, .ref a9, .ref a10, .ref a11, .int 0]))]) hP hD [1] [0] rfl rfl (by decide) (by decide) hk1 hFc hP1 hD1
    generalize H1 = H at hP hS ⊢
    have hP : va_P D vwCl [(h0, .inr (5, [.ref s0, .ref de, .ref kl, .ref tl, .ref cu, .ref hk, .ref ca, .int 0, .int 0, .int (-1), .int 0, .int 0])), (s0, .inr (3, [.ref a0, .ref a1, .ref a2, .ref a3, .ref a4, .ref a5, .ref a6, .int 0, .ref a7, .ref a8, .ref a9, .ref a10, .ref a11, .int 0]))] H := hP
    have hD : va_D A [(h0, .inr (5, [.ref s0, .ref de, .ref kl, .ref tl, .ref cu, .ref hk, .ref ca, .int 0, .int 0, .int (-1), .int 0, .int 0])), (s0, .inr (3, [.ref a0, .ref a1, .ref a2, .ref a3, .ref a4, .ref a5, .ref a6, .int 0, .ref a7, .ref a8, .ref a9, .ref a10, .ref a11, .int 0]))] := hD
    have hq_27 := hw
    obtain rfl : r_1 = (0 : Int32) := hw
    refine lv_if_ne (tgt := 43) hx hb dX5_requireValue_30 (by decide) (fun c_30 => ?_) (fun c_30 => ?_)
    · exact absurd c_30 (by decide)
    exact x_thrI (text := "no VALUE") (mc := 1) (ms := 6) hx hb hl0 hown ht hE hAb (by decide +kernel) hS (by rw [hml]; exact hl.1) dX5_requireValue_33 dX5_requireValue_36 dX5_requireValue_37 dX5_requireValue_39 dX5_requireValue_42 htab (Nat.le_of_ble_eq_true rfl) (Nat.le_of_ble_eq_true rfl) (by decide) (by decide) hlocks (fun t hv1 hz1 hq1 => ⟨(), by first | exact Or.inl c_2 | exact Or.inr (fun h => h c_9), rfl, x_F hS hz1 hq1⟩) hS.2.2 (by decide) (by decide)
  · skip
    refine lv_iload_n hx hb dX5_requireValue_5 rfl (lv_at hl 1 rfl) ?_
    refine lv_sipush (v := 1250) hx hb dX5_requireValue_6 (by decide) ?_
    refine lv_icmp_ge (tgt := 16) hx hb dX5_requireValue_9 (by decide) (fun c_9 => ?_) (fun c_9 => ?_)
    · skip
      refine lv_iconst (v := 0) hx hb dX5_requireValue_16 (by decide) ?_
      refine lv_istore_n (lv' := [(2, .int 0), (0, .ref h0), (1, .int v0)]) hx hb dX5_requireValue_17 rfl hl (by decide) rfl (fun ls hl => ?_)
      refine lv_iload_n hx hb dX5_requireValue_18 rfl (lv_at hl 0 rfl) ?_
      refine lv_if_ne (tgt := 43) hx hb dX5_requireValue_19 (by decide) (fun c_19 => ?_) (fun c_19 => ?_)
      · exact absurd c_19 (by decide)
      refine lv_aload_n hx hb dX5_requireValue_22 rfl (lv_at hl 1 rfl) ?_
      refine va_get (D := D) (ci := 5) (v := .ref s0) (C := RX5) (T := TX5) (N := 12) hx hb ht inX5 hown hK hP 0 rfl rfl 0 (by decide) (ht _ m_274) (fun _ h9 => h9) rfl dX5_requireValue_23 ?_
      refine lv_iload_n hx hb dX5_requireValue_26 rfl (lv_at hl 2 rfl) ?_
      have hPc := hP.sub (ws' := [(s0, .inr (3, [.ref a0, .ref a1, .ref a2, .ref a3, .ref a4, .ref a5, .ref a6, .int 0, .ref a7, .ref a8, .ref a9, .ref a10, .ref a11, .int 0]))]) [1] rfl
      have hDc := hD.sub (ws' := [(s0, .inr (3, [.ref a0, .ref a1, .ref a2, .ref a3, .ref a4, .ref a5, .ref a6, .int 0, .ref a7, .ref a8, .ref a9, .ref a10, .ref a11, .int 0]))]) [1] (by decide) rfl
      have hFc := va_free (wc := [(s0, .inr (3, [.ref a0, .ref a1, .ref a2, .ref a3, .ref a4, .ref a5, .ref a6, .int 0, .ref a7, .ref a8, .ref a9, .ref a10, .ref a11, .int 0]))]) hD hS hA [1] rfl
      refine va_calli (va_runV (As := [.int v0]) (rest := []) ⟨hx, hb, hml, hown, ht⟩ (k3_isObject0 l D C b0 s.heap.size s0 a0 a1 a2 a3 a4 a5 a6 a7 a8 a9 a10 a11 v0) (cwV 1 ht (xg_V m_275 m_276 m_277 m_258 m_158) rfl rfl rfl (by decide +kernel) ⟨Nat.le_of_ble_eq_true rfl, Nat.le_of_ble_eq_true rfl⟩) ⟨xPc_bl, va_recv hK hPc (ci := 3) (q0 := 0) rfl rfl, xPc_at hPc hK hDc hE hS hAb⟩ rfl rfl hl.1 rfl (lv_room (Nat.le_of_ble_eq_true rfl)) dX5_requireValue_27 ⟨(by decide), (by decide)⟩) hS (fun q _ h => hFc q h) hFc (fun r_3 u_4 t H1 locs ht1 hvm hw hB hz1 hk1 hS => ?_)
      obtain ⟨hP1, hD1⟩ := hB
      rw [ht1] at hP1
      try dsimp only at hw
      obtain ⟨hP, hD⟩ := va_join (wr := [(h0, .inr (5, [.ref s0, .ref de, .ref kl, .ref tl, .ref cu, .ref hk, .ref ca, .int 0, .int 0, .int (-1), .int 0, .int 0]))]) (w1 := [(s0, .inr (3, [.ref a0, .ref a1, .ref a2, .ref a3, .ref a4, .ref a5, .ref a6, .int 0, .ref a7, .ref a8, .ref a9, .ref a10, .ref a11, .int 0]))]) hP hD [1] [0] rfl rfl (by decide) (by decide) hk1 hFc hP1 hD1
      generalize H1 = H at hP hS ⊢
      have hP : va_P D vwCl [(h0, .inr (5, [.ref s0, .ref de, .ref kl, .ref tl, .ref cu, .ref hk, .ref ca, .int 0, .int 0, .int (-1), .int 0, .int 0])), (s0, .inr (3, [.ref a0, .ref a1, .ref a2, .ref a3, .ref a4, .ref a5, .ref a6, .int 0, .ref a7, .ref a8, .ref a9, .ref a10, .ref a11, .int 0]))] H := hP
      have hD : va_D A [(h0, .inr (5, [.ref s0, .ref de, .ref kl, .ref tl, .ref cu, .ref hk, .ref ca, .int 0, .int 0, .int (-1), .int 0, .int 0])), (s0, .inr (3, [.ref a0, .ref a1, .ref a2, .ref a3, .ref a4, .ref a5, .ref a6, .int 0, .ref a7, .ref a8, .ref a9, .ref a10, .ref a11, .int 0]))] := hD
      have hq_27 := hw
      obtain rfl : r_3 = (0 : Int32) := hw
      refine lv_if_ne (tgt := 43) hx hb dX5_requireValue_30 (by decide) (fun c_30 => ?_) (fun c_30 => ?_)
      · exact absurd c_30 (by decide)
      exact x_thrI (text := "no VALUE") (mc := 1) (ms := 6) hx hb hl0 hown ht hE hAb (by decide +kernel) hS (by rw [hml]; exact hl.1) dX5_requireValue_33 dX5_requireValue_36 dX5_requireValue_37 dX5_requireValue_39 dX5_requireValue_42 htab (Nat.le_of_ble_eq_true rfl) (Nat.le_of_ble_eq_true rfl) (by decide) (by decide) hlocks (fun t hv1 hz1 hq1 => ⟨(), by first | exact Or.inl c_2 | exact Or.inr (fun h => h c_9), rfl, x_F hS hz1 hq1⟩) hS.2.2 (by decide) (by decide)
    · skip
      refine lv_iconst (v := 1) hx hb dX5_requireValue_12 (by decide) ?_
      refine lv_goto (tgt := 17) hx hb dX5_requireValue_13 (by decide) ?_
      refine lv_istore_n (lv' := [(2, .int 1), (0, .ref h0), (1, .int v0)]) hx hb dX5_requireValue_17 rfl hl (by decide) rfl (fun ls hl => ?_)
      refine lv_iload_n hx hb dX5_requireValue_18 rfl (lv_at hl 0 rfl) ?_
      refine lv_if_ne (tgt := 43) hx hb dX5_requireValue_19 (by decide) (fun c_19 => ?_) (fun c_19 => ?_)
      rotate_left
      · exact absurd c_19 (by decide)
      have hP9 := hP.sub (ws' := [(h0, .inr (5, [.ref s0, .ref de, .ref kl, .ref tl, .ref cu, .ref hk, .ref ca, .int 0, .int 0, .int (-1), .int 0, .int 0])), (s0, .inr (3, [.ref a0, .ref a1, .ref a2, .ref a3, .ref a4, .ref a5, .ref a6, .int 0, .ref a7, .ref a8, .ref a9, .ref a10, .ref a11, .int 0]))]) [0, 1] rfl
      have hD9 := hD.sub (ws' := [(h0, .inr (5, [.ref s0, .ref de, .ref kl, .ref tl, .ref cu, .ref hk, .ref ca, .int 0, .int 0, .int (-1), .int 0, .int 0])), (s0, .inr (3, [.ref a0, .ref a1, .ref a2, .ref a3, .ref a4, .ref a5, .ref a6, .int 0, .ref a7, .ref a8, .ref a9, .ref a10, .ref a11, .int 0]))]) [0, 1] (by decide) rfl
      refine W.widen (k := 1) (n := 6) (by decide) (by decide) ?_
      refine vx_ret ?_
      exact W.vret hx hb hr (fun t ht1 hW => ⟨⟨(xA [], xF []), rfl, ⟨c_2, c_9⟩, by rw [ht1]; exact hP9, hD9⟩, hS.F ht1⟩) hS.2.2 dX5_requireValue_43
set_option maxHeartbeats 4000000 in
set_option maxRecDepth 100000 in
theorem k5_make (l : Launch) (hl0 : l.stackTraces = false) (D : va_G) (C : Nat → ClassId) (b0 sz : Nat) (h0 : Nat) (s0 : Nat) (de : Nat) (kl : Nat) (tl : Nat) (cu : Nat) (hk : Nat) (ca : Nat) (kx : Nat) (ky : Nat) (tx : Nat) (ty : Nat) (a0 : Nat) (a1 : Nat) (a2 : Nat) (a3 : Nat) (a4 : Nat) (a5 : Nat) (a6 : Nat) (a7 : Nat) (a8 : Nat) (a9 : Nat) (a10 : Nat) (a11 : Nat) (f0 : Nat → Int32) (f1 : Nat → Int32) (f2 : Nat → Int32) (f3 : Nat → Int32) (p0 : Int32) : vx_Met l yX5_make (xw yX5_make cX5_make 2 (some .int)) ({ frames := 48, cells := 3, slots := 18, locals := 900 }) (xPc D C b0 [.ref h0, .int p0] [(h0, .inr (5, [.ref s0, .ref de, .ref kl, .ref tl, .ref cu, .ref hk, .ref ca, .int 0, .int 0, .int (-1), .int 0, .int 0])), (kl, .inr (2, [.ref kx, .ref ky, .int 0])), (tl, .inr (4, [.ref tx, .ref ty, .int 1])), (s0, .inr (3, [.ref a0, .ref a1, .ref a2, .ref a3, .ref a4, .ref a5, .ref a6, .int 0, .ref a7, .ref a8, .ref a9, .ref a10, .ref a11, .int 0])), (a0, .inl (C 0, 600, .inl f0)), (a1, .inl (C 0, 600, .inl f1)), (a2, .inl (C 1, 600, .inl f2)), (a3, .inl (C 0, 600, .inl f3))] sz) (va_Qi (fun (r : Int32) (u : xS) => p0 = -1 ∧ r = -2) (xBw D (va_A [(h0, .inr (5, [.ref s0, .ref de, .ref kl, .ref tl, .ref cu, .ref hk, .ref ca, .int 0, .int 0, .int (-1), .int 0, .int 0])), (kl, .inr (2, [.ref kx, .ref ky, .int 0])), (tl, .inr (4, [.ref tx, .ref ty, .int 1])), (s0, .inr (3, [.ref a0, .ref a1, .ref a2, .ref a3, .ref a4, .ref a5, .ref a6, .int 0, .ref a7, .ref a8, .ref a9, .ref a10, .ref a11, .int 0])), (a0, .inl (C 0, 600, .inl f0)), (a1, .inl (C 0, 600, .inl f1)), (a2, .inl (C 1, 600, .inl f2)), (a3, .inl (C 0, 600, .inl f3))] sz) (fun u => [])) (va_A [(h0, .inr (5, [.ref s0, .ref de, .ref kl, .ref tl, .ref cu, .ref hk, .ref ca, .int 0, .int 0, .int (-1), .int 0, .int 0])), (kl, .inr (2, [.ref kx, .ref ky, .int 0])), (tl, .inr (4, [.ref tx, .ref ty, .int 1])), (s0, .inr (3, [.ref a0, .ref a1, .ref a2, .ref a3, .ref a4, .ref a5, .ref a6, .int 0, .ref a7, .ref a8, .ref a9, .ref a10, .ref a11, .int 0])), (a0, .inl (C 0, 600, .inl f0)), (a1, .inl (C 0, 600, .inl f1)), (a2, .inl (C 1, 600, .inl f2)), (a3, .inl (C 0, 600, .inl f3))] sz)) (xX xIAE (¬ p0 = -1) (va_A [(h0, .inr (5, [.ref s0, .ref de, .ref kl, .ref tl, .ref cu, .ref hk, .ref ca, .int 0, .int 0, .int (-1), .int 0, .int 0])), (kl, .inr (2, [.ref kx, .ref ky, .int 0])), (tl, .inr (4, [.ref tx, .ref ty, .int 1])), (s0, .inr (3, [.ref a0, .ref a1, .ref a2, .ref a3, .ref a4, .ref a5, .ref a6, .int 0, .ref a7, .ref a8, .ref a9, .ref a10, .ref a11, .int 0])), (a0, .inl (C 0, 600, .inl f0)), (a1, .inl (C 0, 600, .inl f1)), (a2, .inl (C 1, 600, .inl f2)), (a3, .inl (C 0, 600, .inl f3))] sz)) 3 18 (va_A [(h0, .inr (5, [.ref s0, .ref de, .ref kl, .ref tl, .ref cu, .ref hk, .ref ca, .int 0, .int 0, .int (-1), .int 0, .int 0])), (kl, .inr (2, [.ref kx, .ref ky, .int 0])), (tl, .inr (4, [.ref tx, .ref ty, .int 1])), (s0, .inr (3, [.ref a0, .ref a1, .ref a2, .ref a3, .ref a4, .ref a5, .ref a6, .int 0, .ref a7, .ref a8, .ref a9, .ref a10, .ref a11, .int 0])), (a0, .inl (C 0, 600, .inl f0)), (a1, .inl (C 0, 600, .inl f1)), (a2, .inl (C 1, 600, .inl f2)), (a3, .inl (C 0, 600, .inl f3))] sz) := by
  refine vx_ofW (cc := cX5_make) (maxL := 2) (ret := (some .int)) (by decide) rfl ?_
  intro p e s m args below meth c s₁ B hml htab hv
  obtain ⟨rfl, hsz, hP, hK, hD0, hE⟩ := hv
  have hx := B.exec
  have hb := B.bytes
  have hr := B.returns
  have ht : ∀ w ∈ xb, w.before _ s = true := fun w h => atoms_spec (ws := xw yX5_make cX5_make 2 (some .int)) B.pre w (List.mem_cons_of_mem _ h)
  have hown : s.vm.findClass RX5 = some m.cls := findClass_of_methodNamed B.named
  have hlocks := B.notSynchronized
  subst hsz
  have hAb := x_Ab hD0 hE.1
  have hD := hD0.self (sz := s.heap.size)
  generalize hAe : va_A [(h0, .inr (5, [.ref s0, .ref de, .ref kl, .ref tl, .ref cu, .ref hk, .ref ca, .int 0, .int 0, .int (-1), .int 0, .int 0])), (kl, .inr (2, [.ref kx, .ref ky, .int 0])), (tl, .inr (4, [.ref tx, .ref ty, .int 1])), (s0, .inr (3, [.ref a0, .ref a1, .ref a2, .ref a3, .ref a4, .ref a5, .ref a6, .int 0, .ref a7, .ref a8, .ref a9, .ref a10, .ref a11, .int 0])), (a0, .inl (C 0, 600, .inl f0)), (a1, .inl (C 0, 600, .inl f1)), (a2, .inl (C 1, 600, .inl f2)), (a3, .inl (C 0, 600, .inl f3))] s.heap.size = A at hD hAb ⊢
  have hA : ∀ q : Nat, s.heap.size ≤ q → A q := fun q h => by rw [← hAe]; exact Or.inr h
  have hS : va_S A s.heap s.heap [] := va_S.rf
  have hP : va_P D vwCl [(h0, .inr (5, [.ref s0, .ref de, .ref kl, .ref tl, .ref cu, .ref hk, .ref ca, .int 0, .int 0, .int (-1), .int 0, .int 0])), (kl, .inr (2, [.ref kx, .ref ky, .int 0])), (tl, .inr (4, [.ref tx, .ref ty, .int 1])), (s0, .inr (3, [.ref a0, .ref a1, .ref a2, .ref a3, .ref a4, .ref a5, .ref a6, .int 0, .ref a7, .ref a8, .ref a9, .ref a10, .ref a11, .int 0])), (a0, .inl (C 0, 600, .inl f0)), (a1, .inl (C 0, 600, .inl f1)), (a2, .inl (C 1, 600, .inl f2)), (a3, .inl (C 0, 600, .inl f3))] s.heap := hP
  have hl := lv_entry ([.ref h0, .int p0]) (n := 2) (Nat.le_of_ble_eq_true rfl)
  rw [lg_entry_eq]
  generalize (lg_sl ([.ref h0, .int p0]) ++ List.replicate (2 - (lg_sl ([.ref h0, .int p0])).length) Slot.unset).toArray = ls at hl ⊢
  have hl : lv_has ls 2 [(0, .ref h0), (1, .int p0)] := hl
  refine lv_aload_n hx hb dX5_make_0 rfl (lv_at hl 0 rfl) ?_
  have hPc := hP.sub (ws' := [(h0, .inr (5, [.ref s0, .ref de, .ref kl, .ref tl, .ref cu, .ref hk, .ref ca, .int 0, .int 0, .int (-1), .int 0, .int 0])), (kl, .inr (2, [.ref kx, .ref ky, .int 0])), (tl, .inr (4, [.ref tx, .ref ty, .int 1]))]) [0, 1, 2] rfl
  have hDc := hD.sub (ws' := [(h0, .inr (5, [.ref s0, .ref de, .ref kl, .ref tl, .ref cu, .ref hk, .ref ca, .int 0, .int 0, .int (-1), .int 0, .int 0])), (kl, .inr (2, [.ref kx, .ref ky, .int 0])), (tl, .inr (4, [.ref tx, .ref ty, .int 1]))]) [0, 1, 2] (by decide) rfl
  have hFc := va_free (wc := [(h0, .inr (5, [.ref s0, .ref de, .ref kl, .ref tl, .ref cu, .ref hk, .ref ca, .int 0, .int 0, .int (-1), .int 0, .int 0])), (kl, .inr (2, [.ref kx, .ref ky, .int 0])), (tl, .inr (4, [.ref tx, .ref ty, .int 1]))]) hD hS hA [0, 1, 2] rfl
  refine va_callv (va_runV (As := []) (rest := []) ⟨hx, hb, hml, hown, ht⟩ (k5_begin l D C b0 s.heap.size h0 s0 de kl tl cu hk ca kx ky tx ty) (cwV 0 ht (xg_V m_322 m_323 m_324 m_281 m_162) rfl rfl rfl (by decide +kernel) ⟨Nat.le_of_ble_eq_true rfl, Nat.le_of_ble_eq_true rfl⟩) ⟨xPc_bl, va_recv hK hPc (ci := 5) (q0 := 0) rfl rfl, xPc_at hPc hK hDc hE hS hAb⟩ rfl rfl hl.1 rfl (lv_room (Nat.le_of_ble_eq_true rfl)) dX5_make_1 ⟨(by decide), (by decide)⟩) hS (fun q _ h => hFc q h) hFc (fun u_1 t H1 locs ht1 hvm hw hB hz1 hk1 hS => ?_)
  obtain ⟨hP1, hD1⟩ := hB
  rw [ht1] at hP1
  try dsimp only at hw
  obtain ⟨hP, hD⟩ := va_join (wr := [(s0, .inr (3, [.ref a0, .ref a1, .ref a2, .ref a3, .ref a4, .ref a5, .ref a6, .int 0, .ref a7, .ref a8, .ref a9, .ref a10, .ref a11, .int 0])), (a0, .inl (C 0, 600, .inl f0)), (a1, .inl (C 0, 600, .inl f1)), (a2, .inl (C 1, 600, .inl f2)), (a3, .inl (C 0, 600, .inl f3))]) (w1 := [(h0, .inr (5, [.ref s0, .ref de, .ref kl, .ref tl, .ref cu, .ref hk, .ref ca, .int 0, .int 0, .int (-1), .int 0, .int 0])), (kl, .inr (2, [.ref kx, .ref ky, .int 0])), (tl, .inr (4, [.ref tx, .ref ty, .int 2]))]) hP hD [0, 1, 2] [3, 4, 5, 6, 7] rfl rfl (by decide) (by decide) hk1 hFc hP1 hD1
  generalize H1 = H at hP hS ⊢
  have hP : va_P D vwCl [(s0, .inr (3, [.ref a0, .ref a1, .ref a2, .ref a3, .ref a4, .ref a5, .ref a6, .int 0, .ref a7, .ref a8, .ref a9, .ref a10, .ref a11, .int 0])), (a0, .inl (C 0, 600, .inl f0)), (a1, .inl (C 0, 600, .inl f1)), (a2, .inl (C 1, 600, .inl f2)), (a3, .inl (C 0, 600, .inl f3)), (h0, .inr (5, [.ref s0, .ref de, .ref kl, .ref tl, .ref cu, .ref hk, .ref ca, .int 0, .int 0, .int (-1), .int 0, .int 0])), (kl, .inr (2, [.ref kx, .ref ky, .int 0])), (tl, .inr (4, [.ref tx, .ref ty, .int 2]))] H := hP
  have hD : va_D A [(s0, .inr (3, [.ref a0, .ref a1, .ref a2, .ref a3, .ref a4, .ref a5, .ref a6, .int 0, .ref a7, .ref a8, .ref a9, .ref a10, .ref a11, .int 0])), (a0, .inl (C 0, 600, .inl f0)), (a1, .inl (C 0, 600, .inl f1)), (a2, .inl (C 1, 600, .inl f2)), (a3, .inl (C 0, 600, .inl f3)), (h0, .inr (5, [.ref s0, .ref de, .ref kl, .ref tl, .ref cu, .ref hk, .ref ca, .int 0, .int 0, .int (-1), .int 0, .int 0])), (kl, .inr (2, [.ref kx, .ref ky, .int 0])), (tl, .inr (4, [.ref tx, .ref ty, .int 2]))] := hD
  have hq_1 := hw
  refine lv_aload_n hx hb dX5_make_4 rfl (lv_at hl 0 rfl) ?_
  refine lv_iload_n hx hb dX5_make_5 rfl (lv_at hl 1 rfl) ?_
  have hPc := hP.sub (ws' := [(h0, .inr (5, [.ref s0, .ref de, .ref kl, .ref tl, .ref cu, .ref hk, .ref ca, .int 0, .int 0, .int (-1), .int 0, .int 0])), (s0, .inr (3, [.ref a0, .ref a1, .ref a2, .ref a3, .ref a4, .ref a5, .ref a6, .int 0, .ref a7, .ref a8, .ref a9, .ref a10, .ref a11, .int 0]))]) [5, 0] rfl
  have hDc := hD.sub (ws' := [(h0, .inr (5, [.ref s0, .ref de, .ref kl, .ref tl, .ref cu, .ref hk, .ref ca, .int 0, .int 0, .int (-1), .int 0, .int 0])), (s0, .inr (3, [.ref a0, .ref a1, .ref a2, .ref a3, .ref a4, .ref a5, .ref a6, .int 0, .ref a7, .ref a8, .ref a9, .ref a10, .ref a11, .int 0]))]) [5, 0] (by decide) rfl
  have hFc := va_free (wc := [(h0, .inr (5, [.ref s0, .ref de, .ref kl, .ref tl, .ref cu, .ref hk, .ref ca, .int 0, .int 0, .int (-1), .int 0, .int 0])), (s0, .inr (3, [.ref a0, .ref a1, .ref a2, .ref a3, .ref a4, .ref a5, .ref a6, .int 0, .ref a7, .ref a8, .ref a9, .ref a10, .ref a11, .int 0]))]) hD hS hA [5, 0] rfl
  refine vx_callv (vx_runV (As := [.int p0]) (rest := []) ⟨hx, hb, hml, hown, ht⟩ (k5_requirePrototype l hl0 D C b0 H.size h0 s0 de kl tl cu hk ca a0 a1 a2 a3 a4 a5 a6 a7 a8 a9 a10 a11 p0) (cwV 1 ht (xg_V m_325 m_326 m_327 m_281 m_164) rfl rfl rfl (by decide +kernel) ⟨Nat.le_of_ble_eq_true rfl, Nat.le_of_ble_eq_true rfl⟩) ⟨xPc_bl, va_recv hK hPc (ci := 5) (q0 := 0) rfl rfl, xPc_at hPc hK hDc hE hS hAb⟩ rfl rfl hl.1 rfl (lv_room (Nat.le_of_ble_eq_true rfl)) dX5_make_6 ⟨(by decide), (by decide)⟩) hS (fun q _ h => hFc q h) hFc (fun q _ h => hFc q h) (fun E ce q9 u9 t9 H9 locs9 e9 v9 p9 b9 z9 k9 hS9 hc9 hn9 hf9 => ?_) (fun u_2 t H1 locs ht1 hvm hw hB hz1 hk1 hS => ?_)
  · skip
    obtain rfl := b9
    exact vx_out (mc := 3) (ms := 18) (fun x hx => (htab x hx).elim) hlocks hc9 hn9 hf9 (fun t ht1 hW1 => ⟨(), by first | exact p9 | trivial | assumption | (simp_all; done), rfl, hS9.F ht1⟩) hS9.2.2 (by decide) (by decide)
  · skip
    obtain ⟨hP1, hD1⟩ := hB
    rw [ht1] at hP1
    try dsimp only at hw
    obtain ⟨hP, hD⟩ := va_join (wr := [(a0, .inl (C 0, 600, .inl f0)), (a1, .inl (C 0, 600, .inl f1)), (a2, .inl (C 1, 600, .inl f2)), (a3, .inl (C 0, 600, .inl f3)), (kl, .inr (2, [.ref kx, .ref ky, .int 0])), (tl, .inr (4, [.ref tx, .ref ty, .int 2]))]) (w1 := [(h0, .inr (5, [.ref s0, .ref de, .ref kl, .ref tl, .ref cu, .ref hk, .ref ca, .int 0, .int 0, .int (-1), .int 0, .int 0])), (s0, .inr (3, [.ref a0, .ref a1, .ref a2, .ref a3, .ref a4, .ref a5, .ref a6, .int 0, .ref a7, .ref a8, .ref a9, .ref a10, .ref a11, .int 0]))]) hP hD [5, 0] [1, 2, 3, 4, 6, 7] rfl rfl (by decide) (by decide) hk1 hFc hP1 hD1
    generalize H1 = H at hP hS ⊢
    have hP : va_P D vwCl [(a0, .inl (C 0, 600, .inl f0)), (a1, .inl (C 0, 600, .inl f1)), (a2, .inl (C 1, 600, .inl f2)), (a3, .inl (C 0, 600, .inl f3)), (kl, .inr (2, [.ref kx, .ref ky, .int 0])), (tl, .inr (4, [.ref tx, .ref ty, .int 2])), (h0, .inr (5, [.ref s0, .ref de, .ref kl, .ref tl, .ref cu, .ref hk, .ref ca, .int 0, .int 0, .int (-1), .int 0, .int 0])), (s0, .inr (3, [.ref a0, .ref a1, .ref a2, .ref a3, .ref a4, .ref a5, .ref a6, .int 0, .ref a7, .ref a8, .ref a9, .ref a10, .ref a11, .int 0]))] H := hP
    have hD : va_D A [(a0, .inl (C 0, 600, .inl f0)), (a1, .inl (C 0, 600, .inl f1)), (a2, .inl (C 1, 600, .inl f2)), (a3, .inl (C 0, 600, .inl f3)), (kl, .inr (2, [.ref kx, .ref ky, .int 0])), (tl, .inr (4, [.ref tx, .ref ty, .int 2])), (h0, .inr (5, [.ref s0, .ref de, .ref kl, .ref tl, .ref cu, .ref hk, .ref ca, .int 0, .int 0, .int (-1), .int 0, .int 0])), (s0, .inr (3, [.ref a0, .ref a1, .ref a2, .ref a3, .ref a4, .ref a5, .ref a6, .int 0, .ref a7, .ref a8, .ref a9, .ref a10, .ref a11, .int 0]))] := hD
    have hq_6 := hw
    refine W.widen (k := 1) (n := 6) (by decide) (by decide) ?_
    refine lv_aload_n hx hb dX5_make_9 rfl (lv_at hl 0 rfl) ?_
    refine va_get (D := D) (ci := 5) (v := .ref s0) (C := RX5) (T := TX5) (N := 12) hx hb ht inX5 hown hK hP 6 rfl rfl 0 (by decide) (ht _ m_274) (fun _ h9 => h9) rfl dX5_make_10 ?_
    refine lv_iload_n hx hb dX5_make_13 rfl (lv_at hl 1 rfl) ?_
    have hPc := hP.sub (ws' := [(s0, .inr (3, [.ref a0, .ref a1, .ref a2, .ref a3, .ref a4, .ref a5, .ref a6, .int 0, .ref a7, .ref a8, .ref a9, .ref a10, .ref a11, .int 0])), (a0, .inl (C 0, 600, .inl f0)), (a1, .inl (C 0, 600, .inl f1)), (a2, .inl (C 1, 600, .inl f2)), (a3, .inl (C 0, 600, .inl f3))]) [7, 0, 1, 2, 3] rfl
    have hDc := hD.sub (ws' := [(s0, .inr (3, [.ref a0, .ref a1, .ref a2, .ref a3, .ref a4, .ref a5, .ref a6, .int 0, .ref a7, .ref a8, .ref a9, .ref a10, .ref a11, .int 0])), (a0, .inl (C 0, 600, .inl f0)), (a1, .inl (C 0, 600, .inl f1)), (a2, .inl (C 1, 600, .inl f2)), (a3, .inl (C 0, 600, .inl f3))]) [7, 0, 1, 2, 3] (by decide) rfl
    have hFc := va_free (wc := [(s0, .inr (3, [.ref a0, .ref a1, .ref a2, .ref a3, .ref a4, .ref a5, .ref a6, .int 0, .ref a7, .ref a8, .ref a9, .ref a10, .ref a11, .int 0])), (a0, .inl (C 0, 600, .inl f0)), (a1, .inl (C 0, 600, .inl f1)), (a2, .inl (C 1, 600, .inl f2)), (a3, .inl (C 0, 600, .inl f3))]) hD hS hA [7, 0, 1, 2, 3] rfl
    refine va_calli (va_runV (As := [.int p0]) (rest := []) ⟨hx, hb, hml, hown, ht⟩ (k3_addOrdinary l D C b0 H.size s0 a0 a1 a2 a3 a4 a5 a6 a7 a8 a9 a10 a11 f0 f1 f2 f3 p0) (cwV 1 ht (xg_V m_328 m_329 m_330 m_258 m_168) rfl rfl rfl (by decide +kernel) ⟨Nat.le_of_ble_eq_true rfl, Nat.le_of_ble_eq_true rfl⟩) ⟨xPc_bl, va_recv hK hPc (ci := 3) (q0 := 0) rfl rfl, xPc_at hPc hK hDc hE hS hAb⟩ rfl rfl hl.1 rfl (lv_room (Nat.le_of_ble_eq_true rfl)) dX5_make_14 ⟨(by decide), (by decide)⟩) hS (fun q _ h => hFc q h) hFc (fun r_3 u_4 t H1 locs ht1 hvm hw hB hz1 hk1 hS => ?_)
    obtain ⟨hP1, hD1⟩ := hB
    rw [ht1] at hP1
    try dsimp only at hw
    obtain ⟨hP, hD⟩ := va_join (wr := [(kl, .inr (2, [.ref kx, .ref ky, .int 0])), (tl, .inr (4, [.ref tx, .ref ty, .int 2])), (h0, .inr (5, [.ref s0, .ref de, .ref kl, .ref tl, .ref cu, .ref hk, .ref ca, .int 0, .int 0, .int (-1), .int 0, .int 0]))]) (w1 := []) hP hD [7, 0, 1, 2, 3] [4, 5, 6] rfl rfl (by decide) (by decide) hk1 hFc hP1 hD1
    generalize H1 = H at hP hS ⊢
    have hP : va_P D vwCl [(kl, .inr (2, [.ref kx, .ref ky, .int 0])), (tl, .inr (4, [.ref tx, .ref ty, .int 2])), (h0, .inr (5, [.ref s0, .ref de, .ref kl, .ref tl, .ref cu, .ref hk, .ref ca, .int 0, .int 0, .int (-1), .int 0, .int 0]))] H := hP
    have hD : va_D A [(kl, .inr (2, [.ref kx, .ref ky, .int 0])), (tl, .inr (4, [.ref tx, .ref ty, .int 2])), (h0, .inr (5, [.ref s0, .ref de, .ref kl, .ref tl, .ref cu, .ref hk, .ref ca, .int 0, .int 0, .int (-1), .int 0, .int 0]))] := hD
    have hq_14 := hw
    obtain rfl : r_3 = (-2 : Int32) := hw
    have hP9 := hP.sub (ws' := []) [] rfl
    have hD9 := hD.sub (ws' := []) [] (by decide) rfl
    refine W.widen (k := 3) (n := 18) (by decide) (by decide) ?_
    refine vx_ret ?_
    exact W.iret (v := (-2)) hx hb hr (fun t ht1 hW => ⟨⟨(-2), (xA [], xF []), rfl, ⟨hq_6, rfl⟩, by rw [ht1]; exact hP9, hD9⟩, hS.F ht1⟩) hS.2.2 dX5_make_17
set_option maxHeartbeats 4000000 in
set_option maxRecDepth 100000 in
theorem k5_array (l : Launch) (hl0 : l.stackTraces = false) (D : va_G) (C : Nat → ClassId) (b0 sz : Nat) (h0 : Nat) (s0 : Nat) (de : Nat) (kl : Nat) (tl : Nat) (cu : Nat) (hk : Nat) (ca : Nat) (kx : Nat) (ky : Nat) (tx : Nat) (ty : Nat) (a0 : Nat) (a1 : Nat) (a2 : Nat) (a3 : Nat) (a4 : Nat) (a5 : Nat) (a6 : Nat) (a7 : Nat) (a8 : Nat) (a9 : Nat) (a10 : Nat) (a11 : Nat) (f0 : Nat → Int32) (f1 : Nat → Int32) (f2 : Nat → Int32) (f3 : Nat → Int32) (f7 : Nat → Int32) (f8 : Nat → Int32) (f9 : Nat → Int32) (f10 : Nat → Int32) (f11 : Nat → Int32) (p0 : Int32) : vx_Met l yX5_array (xw yX5_array cX5_array 2 (some .int)) ({ frames := 48, cells := 3, slots := 18, locals := 900 }) (xPc D C b0 [.ref h0, .int p0] [(h0, .inr (5, [.ref s0, .ref de, .ref kl, .ref tl, .ref cu, .ref hk, .ref ca, .int 0, .int 0, .int (-1), .int 0, .int 0])), (kl, .inr (2, [.ref kx, .ref ky, .int 0])), (tl, .inr (4, [.ref tx, .ref ty, .int 1])), (s0, .inr (3, [.ref a0, .ref a1, .ref a2, .ref a3, .ref a4, .ref a5, .ref a6, .int 0, .ref a7, .ref a8, .ref a9, .ref a10, .ref a11, .int 0])), (a0, .inl (C 0, 600, .inl f0)), (a1, .inl (C 0, 600, .inl f1)), (a2, .inl (C 1, 600, .inl f2)), (a3, .inl (C 0, 600, .inl f3)), (a7, .inl (C 0, 5999, .inl f7)), (a8, .inl (C 0, 5999, .inl f8)), (a9, .inl (C 0, 5999, .inl f9)), (a10, .inl (C 0, 5999, .inl f10)), (a11, .inl (C 0, 5999, .inl f11))] sz) (va_Qi (fun (r : Int32) (u : xS) => (¬ p0 < 0 ∧ p0 ≤ 100) ∧ r = -2) (xBw D (va_A [(h0, .inr (5, [.ref s0, .ref de, .ref kl, .ref tl, .ref cu, .ref hk, .ref ca, .int 0, .int 0, .int (-1), .int 0, .int 0])), (kl, .inr (2, [.ref kx, .ref ky, .int 0])), (tl, .inr (4, [.ref tx, .ref ty, .int 1])), (s0, .inr (3, [.ref a0, .ref a1, .ref a2, .ref a3, .ref a4, .ref a5, .ref a6, .int 0, .ref a7, .ref a8, .ref a9, .ref a10, .ref a11, .int 0])), (a0, .inl (C 0, 600, .inl f0)), (a1, .inl (C 0, 600, .inl f1)), (a2, .inl (C 1, 600, .inl f2)), (a3, .inl (C 0, 600, .inl f3)), (a7, .inl (C 0, 5999, .inl f7)), (a8, .inl (C 0, 5999, .inl f8)), (a9, .inl (C 0, 5999, .inl f9)), (a10, .inl (C 0, 5999, .inl f10)), (a11, .inl (C 0, 5999, .inl f11))] sz) (fun u => [])) (va_A [(h0, .inr (5, [.ref s0, .ref de, .ref kl, .ref tl, .ref cu, .ref hk, .ref ca, .int 0, .int 0, .int (-1), .int 0, .int 0])), (kl, .inr (2, [.ref kx, .ref ky, .int 0])), (tl, .inr (4, [.ref tx, .ref ty, .int 1])), (s0, .inr (3, [.ref a0, .ref a1, .ref a2, .ref a3, .ref a4, .ref a5, .ref a6, .int 0, .ref a7, .ref a8, .ref a9, .ref a10, .ref a11, .int 0])), (a0, .inl (C 0, 600, .inl f0)), (a1, .inl (C 0, 600, .inl f1)), (a2, .inl (C 1, 600, .inl f2)), (a3, .inl (C 0, 600, .inl f3)), (a7, .inl (C 0, 5999, .inl f7)), (a8, .inl (C 0, 5999, .inl f8)), (a9, .inl (C 0, 5999, .inl f9)), (a10, .inl (C 0, 5999, .inl f10)), (a11, .inl (C 0, 5999, .inl f11))] sz)) (xX xIAE (¬ (¬ p0 < 0 ∧ p0 ≤ 100)) (va_A [(h0, .inr (5, [.ref s0, .ref de, .ref kl, .ref tl, .ref cu, .ref hk, .ref ca, .int 0, .int 0, .int (-1), .int 0, .int 0])), (kl, .inr (2, [.ref kx, .ref ky, .int 0])), (tl, .inr (4, [.ref tx, .ref ty, .int 1])), (s0, .inr (3, [.ref a0, .ref a1, .ref a2, .ref a3, .ref a4, .ref a5, .ref a6, .int 0, .ref a7, .ref a8, .ref a9, .ref a10, .ref a11, .int 0])), (a0, .inl (C 0, 600, .inl f0)), (a1, .inl (C 0, 600, .inl f1)), (a2, .inl (C 1, 600, .inl f2)), (a3, .inl (C 0, 600, .inl f3)), (a7, .inl (C 0, 5999, .inl f7)), (a8, .inl (C 0, 5999, .inl f8)), (a9, .inl (C 0, 5999, .inl f9)), (a10, .inl (C 0, 5999, .inl f10)), (a11, .inl (C 0, 5999, .inl f11))] sz)) 3 18 (va_A [(h0, .inr (5, [.ref s0, .ref de, .ref kl, .ref tl, .ref cu, .ref hk, .ref ca, .int 0, .int 0, .int (-1), .int 0, .int 0])), (kl, .inr (2, [.ref kx, .ref ky, .int 0])), (tl, .inr (4, [.ref tx, .ref ty, .int 1])), (s0, .inr (3, [.ref a0, .ref a1, .ref a2, .ref a3, .ref a4, .ref a5, .ref a6, .int 0, .ref a7, .ref a8, .ref a9, .ref a10, .ref a11, .int 0])), (a0, .inl (C 0, 600, .inl f0)), (a1, .inl (C 0, 600, .inl f1)), (a2, .inl (C 1, 600, .inl f2)), (a3, .inl (C 0, 600, .inl f3)), (a7, .inl (C 0, 5999, .inl f7)), (a8, .inl (C 0, 5999, .inl f8)), (a9, .inl (C 0, 5999, .inl f9)), (a10, .inl (C 0, 5999, .inl f10)), (a11, .inl (C 0, 5999, .inl f11))] sz) := by
  refine vx_ofW (cc := cX5_array) (maxL := 2) (ret := (some .int)) (by decide) rfl ?_
  intro p e s m args below meth c s₁ B hml htab hv
  obtain ⟨rfl, hsz, hP, hK, hD0, hE⟩ := hv
  have hx := B.exec
  have hb := B.bytes
  have hr := B.returns
  have ht : ∀ w ∈ xb, w.before _ s = true := fun w h => atoms_spec (ws := xw yX5_array cX5_array 2 (some .int)) B.pre w (List.mem_cons_of_mem _ h)
  have hown : s.vm.findClass RX5 = some m.cls := findClass_of_methodNamed B.named
  have hlocks := B.notSynchronized
  subst hsz
  have hAb := x_Ab hD0 hE.1
  have hD := hD0.self (sz := s.heap.size)
  generalize hAe : va_A [(h0, .inr (5, [.ref s0, .ref de, .ref kl, .ref tl, .ref cu, .ref hk, .ref ca, .int 0, .int 0, .int (-1), .int 0, .int 0])), (kl, .inr (2, [.ref kx, .ref ky, .int 0])), (tl, .inr (4, [.ref tx, .ref ty, .int 1])), (s0, .inr (3, [.ref a0, .ref a1, .ref a2, .ref a3, .ref a4, .ref a5, .ref a6, .int 0, .ref a7, .ref a8, .ref a9, .ref a10, .ref a11, .int 0])), (a0, .inl (C 0, 600, .inl f0)), (a1, .inl (C 0, 600, .inl f1)), (a2, .inl (C 1, 600, .inl f2)), (a3, .inl (C 0, 600, .inl f3)), (a7, .inl (C 0, 5999, .inl f7)), (a8, .inl (C 0, 5999, .inl f8)), (a9, .inl (C 0, 5999, .inl f9)), (a10, .inl (C 0, 5999, .inl f10)), (a11, .inl (C 0, 5999, .inl f11))] s.heap.size = A at hD hAb ⊢
  have hA : ∀ q : Nat, s.heap.size ≤ q → A q := fun q h => by rw [← hAe]; exact Or.inr h
  have hS : va_S A s.heap s.heap [] := va_S.rf
  have hP : va_P D vwCl [(h0, .inr (5, [.ref s0, .ref de, .ref kl, .ref tl, .ref cu, .ref hk, .ref ca, .int 0, .int 0, .int (-1), .int 0, .int 0])), (kl, .inr (2, [.ref kx, .ref ky, .int 0])), (tl, .inr (4, [.ref tx, .ref ty, .int 1])), (s0, .inr (3, [.ref a0, .ref a1, .ref a2, .ref a3, .ref a4, .ref a5, .ref a6, .int 0, .ref a7, .ref a8, .ref a9, .ref a10, .ref a11, .int 0])), (a0, .inl (C 0, 600, .inl f0)), (a1, .inl (C 0, 600, .inl f1)), (a2, .inl (C 1, 600, .inl f2)), (a3, .inl (C 0, 600, .inl f3)), (a7, .inl (C 0, 5999, .inl f7)), (a8, .inl (C 0, 5999, .inl f8)), (a9, .inl (C 0, 5999, .inl f9)), (a10, .inl (C 0, 5999, .inl f10)), (a11, .inl (C 0, 5999, .inl f11))] s.heap := hP
  have hl := lv_entry ([.ref h0, .int p0]) (n := 2) (Nat.le_of_ble_eq_true rfl)
  rw [lg_entry_eq]
  generalize (lg_sl ([.ref h0, .int p0]) ++ List.replicate (2 - (lg_sl ([.ref h0, .int p0])).length) Slot.unset).toArray = ls at hl ⊢
  have hl : lv_has ls 2 [(0, .ref h0), (1, .int p0)] := hl
  refine lv_aload_n hx hb dX5_array_0 rfl (lv_at hl 0 rfl) ?_
  have hPc := hP.sub (ws' := [(h0, .inr (5, [.ref s0, .ref de, .ref kl, .ref tl, .ref cu, .ref hk, .ref ca, .int 0, .int 0, .int (-1), .int 0, .int 0])), (kl, .inr (2, [.ref kx, .ref ky, .int 0])), (tl, .inr (4, [.ref tx, .ref ty, .int 1]))]) [0, 1, 2] rfl
  have hDc := hD.sub (ws' := [(h0, .inr (5, [.ref s0, .ref de, .ref kl, .ref tl, .ref cu, .ref hk, .ref ca, .int 0, .int 0, .int (-1), .int 0, .int 0])), (kl, .inr (2, [.ref kx, .ref ky, .int 0])), (tl, .inr (4, [.ref tx, .ref ty, .int 1]))]) [0, 1, 2] (by decide) rfl
  have hFc := va_free (wc := [(h0, .inr (5, [.ref s0, .ref de, .ref kl, .ref tl, .ref cu, .ref hk, .ref ca, .int 0, .int 0, .int (-1), .int 0, .int 0])), (kl, .inr (2, [.ref kx, .ref ky, .int 0])), (tl, .inr (4, [.ref tx, .ref ty, .int 1]))]) hD hS hA [0, 1, 2] rfl
  refine va_callv (va_runV (As := []) (rest := []) ⟨hx, hb, hml, hown, ht⟩ (k5_begin l D C b0 s.heap.size h0 s0 de kl tl cu hk ca kx ky tx ty) (cwV 0 ht (xg_V m_322 m_323 m_324 m_281 m_162) rfl rfl rfl (by decide +kernel) ⟨Nat.le_of_ble_eq_true rfl, Nat.le_of_ble_eq_true rfl⟩) ⟨xPc_bl, va_recv hK hPc (ci := 5) (q0 := 0) rfl rfl, xPc_at hPc hK hDc hE hS hAb⟩ rfl rfl hl.1 rfl (lv_room (Nat.le_of_ble_eq_true rfl)) dX5_array_1 ⟨(by decide), (by decide)⟩) hS (fun q _ h => hFc q h) hFc (fun u_1 t H1 locs ht1 hvm hw hB hz1 hk1 hS => ?_)
  obtain ⟨hP1, hD1⟩ := hB
  rw [ht1] at hP1
  try dsimp only at hw
  obtain ⟨hP, hD⟩ := va_join (wr := [(s0, .inr (3, [.ref a0, .ref a1, .ref a2, .ref a3, .ref a4, .ref a5, .ref a6, .int 0, .ref a7, .ref a8, .ref a9, .ref a10, .ref a11, .int 0])), (a0, .inl (C 0, 600, .inl f0)), (a1, .inl (C 0, 600, .inl f1)), (a2, .inl (C 1, 600, .inl f2)), (a3, .inl (C 0, 600, .inl f3)), (a7, .inl (C 0, 5999, .inl f7)), (a8, .inl (C 0, 5999, .inl f8)), (a9, .inl (C 0, 5999, .inl f9)), (a10, .inl (C 0, 5999, .inl f10)), (a11, .inl (C 0, 5999, .inl f11))]) (w1 := [(h0, .inr (5, [.ref s0, .ref de, .ref kl, .ref tl, .ref cu, .ref hk, .ref ca, .int 0, .int 0, .int (-1), .int 0, .int 0])), (kl, .inr (2, [.ref kx, .ref ky, .int 0])), (tl, .inr (4, [.ref tx, .ref ty, .int 2]))]) hP hD [0, 1, 2] [3, 4, 5, 6, 7, 8, 9, 10, 11, 12] rfl rfl (by decide) (by decide) hk1 hFc hP1 hD1
  generalize H1 = H at hP hS ⊢
  have hP : va_P D vwCl [(s0, .inr (3, [.ref a0, .ref a1, .ref a2, .ref a3, .ref a4, .ref a5, .ref a6, .int 0, .ref a7, .ref a8, .ref a9, .ref a10, .ref a11, .int 0])), (a0, .inl (C 0, 600, .inl f0)), (a1, .inl (C 0, 600, .inl f1)), (a2, .inl (C 1, 600, .inl f2)), (a3, .inl (C 0, 600, .inl f3)), (a7, .inl (C 0, 5999, .inl f7)), (a8, .inl (C 0, 5999, .inl f8)), (a9, .inl (C 0, 5999, .inl f9)), (a10, .inl (C 0, 5999, .inl f10)), (a11, .inl (C 0, 5999, .inl f11)), (h0, .inr (5, [.ref s0, .ref de, .ref kl, .ref tl, .ref cu, .ref hk, .ref ca, .int 0, .int 0, .int (-1), .int 0, .int 0])), (kl, .inr (2, [.ref kx, .ref ky, .int 0])), (tl, .inr (4, [.ref tx, .ref ty, .int 2]))] H := hP
  have hD : va_D A [(s0, .inr (3, [.ref a0, .ref a1, .ref a2, .ref a3, .ref a4, .ref a5, .ref a6, .int 0, .ref a7, .ref a8, .ref a9, .ref a10, .ref a11, .int 0])), (a0, .inl (C 0, 600, .inl f0)), (a1, .inl (C 0, 600, .inl f1)), (a2, .inl (C 1, 600, .inl f2)), (a3, .inl (C 0, 600, .inl f3)), (a7, .inl (C 0, 5999, .inl f7)), (a8, .inl (C 0, 5999, .inl f8)), (a9, .inl (C 0, 5999, .inl f9)), (a10, .inl (C 0, 5999, .inl f10)), (a11, .inl (C 0, 5999, .inl f11)), (h0, .inr (5, [.ref s0, .ref de, .ref kl, .ref tl, .ref cu, .ref hk, .ref ca, .int 0, .int 0, .int (-1), .int 0, .int 0])), (kl, .inr (2, [.ref kx, .ref ky, .int 0])), (tl, .inr (4, [.ref tx, .ref ty, .int 2]))] := hD
  have hq_1 := hw
  refine lv_iload_n hx hb dX5_array_4 rfl (lv_at hl 1 rfl) ?_
  refine lv_if_lt (tgt := 14) hx hb dX5_array_5 (by decide) (fun c_5 => ?_) (fun c_5 => ?_)
  · skip
    exact x_thrI (text := "a length is 0 to 100") (mc := 3) (ms := 18) hx hb hl0 hown ht hE hAb (by decide +kernel) hS (by rw [hml]; exact hl.1) dX5_array_14 dX5_array_17 dX5_array_18 dX5_array_20 dX5_array_23 htab (Nat.le_of_ble_eq_true rfl) (Nat.le_of_ble_eq_true rfl) (by decide) (by decide) hlocks (fun t hv1 hz1 hq1 => ⟨(), by first | exact fun h => h.1 c_5 | exact fun h => c_11 h.2, rfl, x_F hS hz1 hq1⟩) hS.2.2 (by decide) (by decide)
  · skip
    refine lv_iload_n hx hb dX5_array_8 rfl (lv_at hl 1 rfl) ?_
    refine lv_bipush (v := 100) hx hb dX5_array_9 (by decide) ?_
    refine lv_icmp_le (tgt := 24) hx hb dX5_array_11 (by decide) (fun c_11 => ?_) (fun c_11 => ?_)
    · skip
      refine lv_aload_n hx hb dX5_array_24 rfl (lv_at hl 0 rfl) ?_
      refine va_get (D := D) (ci := 5) (v := .ref s0) (C := RX5) (T := TX5) (N := 12) hx hb ht inX5 hown hK hP 10 rfl rfl 0 (by decide) (ht _ m_274) (fun _ h9 => h9) rfl dX5_array_25 ?_
      refine lv_iload_n hx hb dX5_array_28 rfl (lv_at hl 1 rfl) ?_
      have hPc := hP.sub (ws' := [(s0, .inr (3, [.ref a0, .ref a1, .ref a2, .ref a3, .ref a4, .ref a5, .ref a6, .int 0, .ref a7, .ref a8, .ref a9, .ref a10, .ref a11, .int 0])), (a0, .inl (C 0, 600, .inl f0)), (a1, .inl (C 0, 600, .inl f1)), (a2, .inl (C 1, 600, .inl f2)), (a3, .inl (C 0, 600, .inl f3)), (a7, .inl (C 0, 5999, .inl f7)), (a8, .inl (C 0, 5999, .inl f8)), (a9, .inl (C 0, 5999, .inl f9)), (a10, .inl (C 0, 5999, .inl f10)), (a11, .inl (C 0, 5999, .inl f11))]) [0, 1, 2, 3, 4, 5, 6, 7, 8, 9] rfl
      have hDc := hD.sub (ws' := [(s0, .inr (3, [.ref a0, .ref a1, .ref a2, .ref a3, .ref a4, .ref a5, .ref a6, .int 0, .ref a7, .ref a8, .ref a9, .ref a10, .ref a11, .int 0])), (a0, .inl (C 0, 600, .inl f0)), (a1, .inl (C 0, 600, .inl f1)), (a2, .inl (C 1, 600, .inl f2)), (a3, .inl (C 0, 600, .inl f3)), (a7, .inl (C 0, 5999, .inl f7)), (a8, .inl (C 0, 5999, .inl f8)), (a9, .inl (C 0, 5999, .inl f9)), (a10, .inl (C 0, 5999, .inl f10)), (a11, .inl (C 0, 5999, .inl f11))]) [0, 1, 2, 3, 4, 5, 6, 7, 8, 9] (by decide) rfl
      have hFc := va_free (wc := [(s0, .inr (3, [.ref a0, .ref a1, .ref a2, .ref a3, .ref a4, .ref a5, .ref a6, .int 0, .ref a7, .ref a8, .ref a9, .ref a10, .ref a11, .int 0])), (a0, .inl (C 0, 600, .inl f0)), (a1, .inl (C 0, 600, .inl f1)), (a2, .inl (C 1, 600, .inl f2)), (a3, .inl (C 0, 600, .inl f3)), (a7, .inl (C 0, 5999, .inl f7)), (a8, .inl (C 0, 5999, .inl f8)), (a9, .inl (C 0, 5999, .inl f9)), (a10, .inl (C 0, 5999, .inl f10)), (a11, .inl (C 0, 5999, .inl f11))]) hD hS hA [0, 1, 2, 3, 4, 5, 6, 7, 8, 9] rfl
      refine va_calli (va_runV (As := [.int p0]) (rest := []) ⟨hx, hb, hml, hown, ht⟩ (k3_addArray l D C b0 H.size s0 a0 a1 a2 a3 a4 a5 a6 a7 a8 a9 a10 a11 f0 f1 f2 f3 f7 f8 f9 f10 f11 p0) (cwV 1 ht (xg_V m_331 m_332 m_333 m_258 m_175) rfl rfl rfl (by decide +kernel) ⟨Nat.le_of_ble_eq_true rfl, Nat.le_of_ble_eq_true rfl⟩) ⟨xPc_bl, va_recv hK hPc (ci := 3) (q0 := 0) rfl rfl, xPc_at hPc hK hDc hE hS hAb⟩ rfl rfl hl.1 rfl (lv_room (Nat.le_of_ble_eq_true rfl)) dX5_array_29 ⟨(by decide), (by decide)⟩) hS (fun q _ h => hFc q h) hFc (fun r_2 u_3 t H1 locs ht1 hvm hw hB hz1 hk1 hS => ?_)
      obtain ⟨hP1, hD1⟩ := hB
      rw [ht1] at hP1
      try dsimp only at hw
      obtain ⟨hP, hD⟩ := va_join (wr := [(h0, .inr (5, [.ref s0, .ref de, .ref kl, .ref tl, .ref cu, .ref hk, .ref ca, .int 0, .int 0, .int (-1), .int 0, .int 0])), (kl, .inr (2, [.ref kx, .ref ky, .int 0])), (tl, .inr (4, [.ref tx, .ref ty, .int 2]))]) (w1 := []) hP hD [0, 1, 2, 3, 4, 5, 6, 7, 8, 9] [10, 11, 12] rfl rfl (by decide) (by decide) hk1 hFc hP1 hD1
      generalize H1 = H at hP hS ⊢
      have hP : va_P D vwCl [(h0, .inr (5, [.ref s0, .ref de, .ref kl, .ref tl, .ref cu, .ref hk, .ref ca, .int 0, .int 0, .int (-1), .int 0, .int 0])), (kl, .inr (2, [.ref kx, .ref ky, .int 0])), (tl, .inr (4, [.ref tx, .ref ty, .int 2]))] H := hP
      have hD : va_D A [(h0, .inr (5, [.ref s0, .ref de, .ref kl, .ref tl, .ref cu, .ref hk, .ref ca, .int 0, .int 0, .int (-1), .int 0, .int 0])), (kl, .inr (2, [.ref kx, .ref ky, .int 0])), (tl, .inr (4, [.ref tx, .ref ty, .int 2]))] := hD
      have hq_29 := hw
      obtain rfl : r_2 = (-2 : Int32) := hw
      have hP9 := hP.sub (ws' := []) [] rfl
      have hD9 := hD.sub (ws' := []) [] (by decide) rfl
      refine W.widen (k := 3) (n := 18) (by decide) (by decide) ?_
      refine vx_ret ?_
      exact W.iret (v := (-2)) hx hb hr (fun t ht1 hW => ⟨⟨(-2), (xA [], xF []), rfl, ⟨⟨c_5, c_11⟩, rfl⟩, by rw [ht1]; exact hP9, hD9⟩, hS.F ht1⟩) hS.2.2 dX5_array_32
    · skip
      exact x_thrI (text := "a length is 0 to 100") (mc := 3) (ms := 18) hx hb hl0 hown ht hE hAb (by decide +kernel) hS (by rw [hml]; exact hl.1) dX5_array_14 dX5_array_17 dX5_array_18 dX5_array_20 dX5_array_23 htab (Nat.le_of_ble_eq_true rfl) (Nat.le_of_ble_eq_true rfl) (by decide) (by decide) hlocks (fun t hv1 hz1 hq1 => ⟨(), by first | exact fun h => h.1 c_5 | exact fun h => c_11 h.2, rfl, x_F hS hz1 hq1⟩) hS.2.2 (by decide) (by decide)
set_option maxHeartbeats 4000000 in
set_option maxRecDepth 100000 in
theorem k5_function (l : Launch) (hl0 : l.stackTraces = false) (D : va_G) (C : Nat → ClassId) (b0 sz : Nat) (h0 : Nat) (s0 : Nat) (de : Nat) (kl : Nat) (tl : Nat) (cu : Nat) (hk : Nat) (ca : Nat) (kx : Nat) (ky : Nat) (tx : Nat) (ty : Nat) (a0 : Nat) (a1 : Nat) (a2 : Nat) (a3 : Nat) (a4 : Nat) (a5 : Nat) (a6 : Nat) (a7 : Nat) (a8 : Nat) (a9 : Nat) (a10 : Nat) (a11 : Nat) (f0 : Nat → Int32) (f1 : Nat → Int32) (f2 : Nat → Int32) (f3 : Nat → Int32) (f4 : Nat → Int32) (f5 : Nat → Int32) (f6 : Nat → Int32) (p0 : Int32) (p1 : Int32) (p2 : Int32) : vx_Met l yX5_function (xw yX5_function cX5_function 4 (some .int)) ({ frames := 48, cells := 3, slots := 18, locals := 900 }) (xPc D C b0 [.ref h0, .int p0, .int p1, .int p2] [(h0, .inr (5, [.ref s0, .ref de, .ref kl, .ref tl, .ref cu, .ref hk, .ref ca, .int 0, .int 0, .int (-1), .int 0, .int 0])), (kl, .inr (2, [.ref kx, .ref ky, .int 0])), (tl, .inr (4, [.ref tx, .ref ty, .int 1])), (s0, .inr (3, [.ref a0, .ref a1, .ref a2, .ref a3, .ref a4, .ref a5, .ref a6, .int 0, .ref a7, .ref a8, .ref a9, .ref a10, .ref a11, .int 0])), (a0, .inl (C 0, 600, .inl f0)), (a1, .inl (C 0, 600, .inl f1)), (a2, .inl (C 1, 600, .inl f2)), (a3, .inl (C 0, 600, .inl f3)), (a4, .inl (C 0, 600, .inl f4)), (a5, .inl (C 0, 600, .inl f5)), (a6, .inl (C 0, 600, .inl f6))] sz) (va_Qi (fun (r : Int32) (u : xS) => ((¬ p0 < 0 ∧ p0 ≤ 5) ∧ (¬ p1 < 0 ∧ p1 < 250) ∧ ¬ p2 < -1 ∧ ¬ 1250 ≤ p2) ∧ r = -2) (xBw D (va_A [(h0, .inr (5, [.ref s0, .ref de, .ref kl, .ref tl, .ref cu, .ref hk, .ref ca, .int 0, .int 0, .int (-1), .int 0, .int 0])), (kl, .inr (2, [.ref kx, .ref ky, .int 0])), (tl, .inr (4, [.ref tx, .ref ty, .int 1])), (s0, .inr (3, [.ref a0, .ref a1, .ref a2, .ref a3, .ref a4, .ref a5, .ref a6, .int 0, .ref a7, .ref a8, .ref a9, .ref a10, .ref a11, .int 0])), (a0, .inl (C 0, 600, .inl f0)), (a1, .inl (C 0, 600, .inl f1)), (a2, .inl (C 1, 600, .inl f2)), (a3, .inl (C 0, 600, .inl f3)), (a4, .inl (C 0, 600, .inl f4)), (a5, .inl (C 0, 600, .inl f5)), (a6, .inl (C 0, 600, .inl f6))] sz) (fun u => [])) (va_A [(h0, .inr (5, [.ref s0, .ref de, .ref kl, .ref tl, .ref cu, .ref hk, .ref ca, .int 0, .int 0, .int (-1), .int 0, .int 0])), (kl, .inr (2, [.ref kx, .ref ky, .int 0])), (tl, .inr (4, [.ref tx, .ref ty, .int 1])), (s0, .inr (3, [.ref a0, .ref a1, .ref a2, .ref a3, .ref a4, .ref a5, .ref a6, .int 0, .ref a7, .ref a8, .ref a9, .ref a10, .ref a11, .int 0])), (a0, .inl (C 0, 600, .inl f0)), (a1, .inl (C 0, 600, .inl f1)), (a2, .inl (C 1, 600, .inl f2)), (a3, .inl (C 0, 600, .inl f3)), (a4, .inl (C 0, 600, .inl f4)), (a5, .inl (C 0, 600, .inl f5)), (a6, .inl (C 0, 600, .inl f6))] sz)) (xX xIAE (¬ ((¬ p0 < 0 ∧ p0 ≤ 5) ∧ (¬ p1 < 0 ∧ p1 < 250) ∧ ¬ p2 < -1 ∧ ¬ 1250 ≤ p2)) (va_A [(h0, .inr (5, [.ref s0, .ref de, .ref kl, .ref tl, .ref cu, .ref hk, .ref ca, .int 0, .int 0, .int (-1), .int 0, .int 0])), (kl, .inr (2, [.ref kx, .ref ky, .int 0])), (tl, .inr (4, [.ref tx, .ref ty, .int 1])), (s0, .inr (3, [.ref a0, .ref a1, .ref a2, .ref a3, .ref a4, .ref a5, .ref a6, .int 0, .ref a7, .ref a8, .ref a9, .ref a10, .ref a11, .int 0])), (a0, .inl (C 0, 600, .inl f0)), (a1, .inl (C 0, 600, .inl f1)), (a2, .inl (C 1, 600, .inl f2)), (a3, .inl (C 0, 600, .inl f3)), (a4, .inl (C 0, 600, .inl f4)), (a5, .inl (C 0, 600, .inl f5)), (a6, .inl (C 0, 600, .inl f6))] sz)) 3 18 (va_A [(h0, .inr (5, [.ref s0, .ref de, .ref kl, .ref tl, .ref cu, .ref hk, .ref ca, .int 0, .int 0, .int (-1), .int 0, .int 0])), (kl, .inr (2, [.ref kx, .ref ky, .int 0])), (tl, .inr (4, [.ref tx, .ref ty, .int 1])), (s0, .inr (3, [.ref a0, .ref a1, .ref a2, .ref a3, .ref a4, .ref a5, .ref a6, .int 0, .ref a7, .ref a8, .ref a9, .ref a10, .ref a11, .int 0])), (a0, .inl (C 0, 600, .inl f0)), (a1, .inl (C 0, 600, .inl f1)), (a2, .inl (C 1, 600, .inl f2)), (a3, .inl (C 0, 600, .inl f3)), (a4, .inl (C 0, 600, .inl f4)), (a5, .inl (C 0, 600, .inl f5)), (a6, .inl (C 0, 600, .inl f6))] sz) := by
  refine vx_ofW (cc := cX5_function) (maxL := 4) (ret := (some .int)) (by decide) rfl ?_
  intro p e s m args below meth c s₁ B hml htab hv
  obtain ⟨rfl, hsz, hP, hK, hD0, hE⟩ := hv
  have hx := B.exec
  have hb := B.bytes
  have hr := B.returns
  have ht : ∀ w ∈ xb, w.before _ s = true := fun w h => atoms_spec (ws := xw yX5_function cX5_function 4 (some .int)) B.pre w (List.mem_cons_of_mem _ h)
  have hown : s.vm.findClass RX5 = some m.cls := findClass_of_methodNamed B.named
  have hlocks := B.notSynchronized
  subst hsz
  have hAb := x_Ab hD0 hE.1
  have hD := hD0.self (sz := s.heap.size)
  generalize hAe : va_A [(h0, .inr (5, [.ref s0, .ref de, .ref kl, .ref tl, .ref cu, .ref hk, .ref ca, .int 0, .int 0, .int (-1), .int 0, .int 0])), (kl, .inr (2, [.ref kx, .ref ky, .int 0])), (tl, .inr (4, [.ref tx, .ref ty, .int 1])), (s0, .inr (3, [.ref a0, .ref a1, .ref a2, .ref a3, .ref a4, .ref a5, .ref a6, .int 0, .ref a7, .ref a8, .ref a9, .ref a10, .ref a11, .int 0])), (a0, .inl (C 0, 600, .inl f0)), (a1, .inl (C 0, 600, .inl f1)), (a2, .inl (C 1, 600, .inl f2)), (a3, .inl (C 0, 600, .inl f3)), (a4, .inl (C 0, 600, .inl f4)), (a5, .inl (C 0, 600, .inl f5)), (a6, .inl (C 0, 600, .inl f6))] s.heap.size = A at hD hAb ⊢
  have hA : ∀ q : Nat, s.heap.size ≤ q → A q := fun q h => by rw [← hAe]; exact Or.inr h
  have hS : va_S A s.heap s.heap [] := va_S.rf
  have hP : va_P D vwCl [(h0, .inr (5, [.ref s0, .ref de, .ref kl, .ref tl, .ref cu, .ref hk, .ref ca, .int 0, .int 0, .int (-1), .int 0, .int 0])), (kl, .inr (2, [.ref kx, .ref ky, .int 0])), (tl, .inr (4, [.ref tx, .ref ty, .int 1])), (s0, .inr (3, [.ref a0, .ref a1, .ref a2, .ref a3, .ref a4, .ref a5, .ref a6, .int 0, .ref a7, .ref a8, .ref a9, .ref a10, .ref a11, .int 0])), (a0, .inl (C 0, 600, .inl f0)), (a1, .inl (C 0, 600, .inl f1)), (a2, .inl (C 1, 600, .inl f2)), (a3, .inl (C 0, 600, .inl f3)), (a4, .inl (C 0, 600, .inl f4)), (a5, .inl (C 0, 600, .inl f5)), (a6, .inl (C 0, 600, .inl f6))] s.heap := hP
  have hl := lv_entry ([.ref h0, .int p0, .int p1, .int p2]) (n := 4) (Nat.le_of_ble_eq_true rfl)
  rw [lg_entry_eq]
  generalize (lg_sl ([.ref h0, .int p0, .int p1, .int p2]) ++ List.replicate (4 - (lg_sl ([.ref h0, .int p0, .int p1, .int p2])).length) Slot.unset).toArray = ls at hl ⊢
  have hl : lv_has ls 4 [(0, .ref h0), (1, .int p0), (2, .int p1), (3, .int p2)] := hl
  refine lv_aload_n hx hb dX5_function_0 rfl (lv_at hl 0 rfl) ?_
  have hPc := hP.sub (ws' := [(h0, .inr (5, [.ref s0, .ref de, .ref kl, .ref tl, .ref cu, .ref hk, .ref ca, .int 0, .int 0, .int (-1), .int 0, .int 0])), (kl, .inr (2, [.ref kx, .ref ky, .int 0])), (tl, .inr (4, [.ref tx, .ref ty, .int 1]))]) [0, 1, 2] rfl
  have hDc := hD.sub (ws' := [(h0, .inr (5, [.ref s0, .ref de, .ref kl, .ref tl, .ref cu, .ref hk, .ref ca, .int 0, .int 0, .int (-1), .int 0, .int 0])), (kl, .inr (2, [.ref kx, .ref ky, .int 0])), (tl, .inr (4, [.ref tx, .ref ty, .int 1]))]) [0, 1, 2] (by decide) rfl
  have hFc := va_free (wc := [(h0, .inr (5, [.ref s0, .ref de, .ref kl, .ref tl, .ref cu, .ref hk, .ref ca, .int 0, .int 0, .int (-1), .int 0, .int 0])), (kl, .inr (2, [.ref kx, .ref ky, .int 0])), (tl, .inr (4, [.ref tx, .ref ty, .int 1]))]) hD hS hA [0, 1, 2] rfl
  refine va_callv (va_runV (As := []) (rest := []) ⟨hx, hb, hml, hown, ht⟩ (k5_begin l D C b0 s.heap.size h0 s0 de kl tl cu hk ca kx ky tx ty) (cwV 0 ht (xg_V m_322 m_323 m_324 m_281 m_162) rfl rfl rfl (by decide +kernel) ⟨Nat.le_of_ble_eq_true rfl, Nat.le_of_ble_eq_true rfl⟩) ⟨xPc_bl, va_recv hK hPc (ci := 5) (q0 := 0) rfl rfl, xPc_at hPc hK hDc hE hS hAb⟩ rfl rfl hl.1 rfl (lv_room (Nat.le_of_ble_eq_true rfl)) dX5_function_1 ⟨(by decide), (by decide)⟩) hS (fun q _ h => hFc q h) hFc (fun u_1 t H1 locs ht1 hvm hw hB hz1 hk1 hS => ?_)
  obtain ⟨hP1, hD1⟩ := hB
  rw [ht1] at hP1
  try dsimp only at hw
  obtain ⟨hP, hD⟩ := va_join (wr := [(s0, .inr (3, [.ref a0, .ref a1, .ref a2, .ref a3, .ref a4, .ref a5, .ref a6, .int 0, .ref a7, .ref a8, .ref a9, .ref a10, .ref a11, .int 0])), (a0, .inl (C 0, 600, .inl f0)), (a1, .inl (C 0, 600, .inl f1)), (a2, .inl (C 1, 600, .inl f2)), (a3, .inl (C 0, 600, .inl f3)), (a4, .inl (C 0, 600, .inl f4)), (a5, .inl (C 0, 600, .inl f5)), (a6, .inl (C 0, 600, .inl f6))]) (w1 := [(h0, .inr (5, [.ref s0, .ref de, .ref kl, .ref tl, .ref cu, .ref hk, .ref ca, .int 0, .int 0, .int (-1), .int 0, .int 0])), (kl, .inr (2, [.ref kx, .ref ky, .int 0])), (tl, .inr (4, [.ref tx, .ref ty, .int 2]))]) hP hD [0, 1, 2] [3, 4, 5, 6, 7, 8, 9, 10] rfl rfl (by decide) (by decide) hk1 hFc hP1 hD1
  generalize H1 = H at hP hS ⊢
  have hP : va_P D vwCl [(s0, .inr (3, [.ref a0, .ref a1, .ref a2, .ref a3, .ref a4, .ref a5, .ref a6, .int 0, .ref a7, .ref a8, .ref a9, .ref a10, .ref a11, .int 0])), (a0, .inl (C 0, 600, .inl f0)), (a1, .inl (C 0, 600, .inl f1)), (a2, .inl (C 1, 600, .inl f2)), (a3, .inl (C 0, 600, .inl f3)), (a4, .inl (C 0, 600, .inl f4)), (a5, .inl (C 0, 600, .inl f5)), (a6, .inl (C 0, 600, .inl f6)), (h0, .inr (5, [.ref s0, .ref de, .ref kl, .ref tl, .ref cu, .ref hk, .ref ca, .int 0, .int 0, .int (-1), .int 0, .int 0])), (kl, .inr (2, [.ref kx, .ref ky, .int 0])), (tl, .inr (4, [.ref tx, .ref ty, .int 2]))] H := hP
  have hD : va_D A [(s0, .inr (3, [.ref a0, .ref a1, .ref a2, .ref a3, .ref a4, .ref a5, .ref a6, .int 0, .ref a7, .ref a8, .ref a9, .ref a10, .ref a11, .int 0])), (a0, .inl (C 0, 600, .inl f0)), (a1, .inl (C 0, 600, .inl f1)), (a2, .inl (C 1, 600, .inl f2)), (a3, .inl (C 0, 600, .inl f3)), (a4, .inl (C 0, 600, .inl f4)), (a5, .inl (C 0, 600, .inl f5)), (a6, .inl (C 0, 600, .inl f6)), (h0, .inr (5, [.ref s0, .ref de, .ref kl, .ref tl, .ref cu, .ref hk, .ref ca, .int 0, .int 0, .int (-1), .int 0, .int 0])), (kl, .inr (2, [.ref kx, .ref ky, .int 0])), (tl, .inr (4, [.ref tx, .ref ty, .int 2]))] := hD
  have hq_1 := hw
  refine lv_iload_n hx hb dX5_function_4 rfl (lv_at hl 1 rfl) ?_
  refine lv_if_lt (tgt := 13) hx hb dX5_function_5 (by decide) (fun c_5 => ?_) (fun c_5 => ?_)
  · skip
    exact x_thrI (text := "an act is 0 to 5") (mc := 3) (ms := 18) hx hb hl0 hown ht hE hAb (by decide +kernel) hS (by rw [hml]; exact hl.1) dX5_function_13 dX5_function_16 dX5_function_17 dX5_function_19 dX5_function_22 htab (Nat.le_of_ble_eq_true rfl) (Nat.le_of_ble_eq_true rfl) (by decide) (by decide) hlocks (fun t hv1 hz1 hq1 => ⟨(), by first | exact fun h => h.1.1 c_5 | exact fun h => c_10 h.1.2, rfl, x_F hS hz1 hq1⟩) hS.2.2 (by decide) (by decide)
  · skip
    refine lv_iload_n hx hb dX5_function_8 rfl (lv_at hl 1 rfl) ?_
    refine lv_iconst (v := 5) hx hb dX5_function_9 (by decide) ?_
    refine lv_icmp_le (tgt := 23) hx hb dX5_function_10 (by decide) (fun c_10 => ?_) (fun c_10 => ?_)
    · skip
      refine lv_aload_n hx hb dX5_function_23 rfl (lv_at hl 0 rfl) ?_
      refine lv_iload_n hx hb dX5_function_24 rfl (lv_at hl 2 rfl) ?_
      have hPc := hP.sub (ws' := [(h0, .inr (5, [.ref s0, .ref de, .ref kl, .ref tl, .ref cu, .ref hk, .ref ca, .int 0, .int 0, .int (-1), .int 0, .int 0]))]) [8] rfl
      have hDc := hD.sub (ws' := [(h0, .inr (5, [.ref s0, .ref de, .ref kl, .ref tl, .ref cu, .ref hk, .ref ca, .int 0, .int 0, .int (-1), .int 0, .int 0]))]) [8] (by decide) rfl
      have hFc := va_free (wc := [(h0, .inr (5, [.ref s0, .ref de, .ref kl, .ref tl, .ref cu, .ref hk, .ref ca, .int 0, .int 0, .int (-1), .int 0, .int 0]))]) hD hS hA [8] rfl
      refine vx_callv (vx_runV (As := [.int p1]) (rest := []) ⟨hx, hb, hml, hown, ht⟩ (k5_requireKey l hl0 D C b0 H.size h0 s0 de kl tl cu hk ca p1) (cwV 1 ht (xg_V m_334 m_335 m_336 m_281 m_165) rfl rfl rfl (by decide +kernel) ⟨Nat.le_of_ble_eq_true rfl, Nat.le_of_ble_eq_true rfl⟩) ⟨xPc_bl, va_recv hK hPc (ci := 5) (q0 := 0) rfl rfl, xPc_at hPc hK hDc hE hS hAb⟩ rfl rfl hl.1 rfl (lv_room (Nat.le_of_ble_eq_true rfl)) dX5_function_25 ⟨(by decide), (by decide)⟩) hS (fun q _ h => hFc q h) hFc (fun q _ h => hFc q h) (fun E ce q9 u9 t9 H9 locs9 e9 v9 p9 b9 z9 k9 hS9 hc9 hn9 hf9 => ?_) (fun u_2 t H1 locs ht1 hvm hw hB hz1 hk1 hS => ?_)
      · skip
        obtain rfl := b9
        exact vx_out (mc := 3) (ms := 18) (fun x hx => (htab x hx).elim) hlocks hc9 hn9 hf9 (fun t ht1 hW1 => ⟨(), fun h => p9.elim h.2.1.1 (fun z => z h.2.1.2), rfl, hS9.F ht1⟩) hS9.2.2 (by decide) (by decide)
      · skip
        obtain ⟨hP1, hD1⟩ := hB
        rw [ht1] at hP1
        try dsimp only at hw
        obtain ⟨hP, hD⟩ := va_join (wr := [(s0, .inr (3, [.ref a0, .ref a1, .ref a2, .ref a3, .ref a4, .ref a5, .ref a6, .int 0, .ref a7, .ref a8, .ref a9, .ref a10, .ref a11, .int 0])), (a0, .inl (C 0, 600, .inl f0)), (a1, .inl (C 0, 600, .inl f1)), (a2, .inl (C 1, 600, .inl f2)), (a3, .inl (C 0, 600, .inl f3)), (a4, .inl (C 0, 600, .inl f4)), (a5, .inl (C 0, 600, .inl f5)), (a6, .inl (C 0, 600, .inl f6)), (kl, .inr (2, [.ref kx, .ref ky, .int 0])), (tl, .inr (4, [.ref tx, .ref ty, .int 2]))]) (w1 := [(h0, .inr (5, [.ref s0, .ref de, .ref kl, .ref tl, .ref cu, .ref hk, .ref ca, .int 0, .int 0, .int (-1), .int 0, .int 0]))]) hP hD [8] [0, 1, 2, 3, 4, 5, 6, 7, 9, 10] rfl rfl (by decide) (by decide) hk1 hFc hP1 hD1
        generalize H1 = H at hP hS ⊢
        have hP : va_P D vwCl [(s0, .inr (3, [.ref a0, .ref a1, .ref a2, .ref a3, .ref a4, .ref a5, .ref a6, .int 0, .ref a7, .ref a8, .ref a9, .ref a10, .ref a11, .int 0])), (a0, .inl (C 0, 600, .inl f0)), (a1, .inl (C 0, 600, .inl f1)), (a2, .inl (C 1, 600, .inl f2)), (a3, .inl (C 0, 600, .inl f3)), (a4, .inl (C 0, 600, .inl f4)), (a5, .inl (C 0, 600, .inl f5)), (a6, .inl (C 0, 600, .inl f6)), (kl, .inr (2, [.ref kx, .ref ky, .int 0])), (tl, .inr (4, [.ref tx, .ref ty, .int 2])), (h0, .inr (5, [.ref s0, .ref de, .ref kl, .ref tl, .ref cu, .ref hk, .ref ca, .int 0, .int 0, .int (-1), .int 0, .int 0]))] H := hP
        have hD : va_D A [(s0, .inr (3, [.ref a0, .ref a1, .ref a2, .ref a3, .ref a4, .ref a5, .ref a6, .int 0, .ref a7, .ref a8, .ref a9, .ref a10, .ref a11, .int 0])), (a0, .inl (C 0, 600, .inl f0)), (a1, .inl (C 0, 600, .inl f1)), (a2, .inl (C 1, 600, .inl f2)), (a3, .inl (C 0, 600, .inl f3)), (a4, .inl (C 0, 600, .inl f4)), (a5, .inl (C 0, 600, .inl f5)), (a6, .inl (C 0, 600, .inl f6)), (kl, .inr (2, [.ref kx, .ref ky, .int 0])), (tl, .inr (4, [.ref tx, .ref ty, .int 2])), (h0, .inr (5, [.ref s0, .ref de, .ref kl, .ref tl, .ref cu, .ref hk, .ref ca, .int 0, .int 0, .int (-1), .int 0, .int 0]))] := hD
        have hq_25 := hw
        refine W.widen (k := 1) (n := 6) (by decide) (by decide) ?_
        refine lv_aload_n hx hb dX5_function_28 rfl (lv_at hl 0 rfl) ?_
        refine lv_iload_n hx hb dX5_function_29 rfl (lv_at hl 3 rfl) ?_
        have hPc := hP.sub (ws' := [(h0, .inr (5, [.ref s0, .ref de, .ref kl, .ref tl, .ref cu, .ref hk, .ref ca, .int 0, .int 0, .int (-1), .int 0, .int 0])), (s0, .inr (3, [.ref a0, .ref a1, .ref a2, .ref a3, .ref a4, .ref a5, .ref a6, .int 0, .ref a7, .ref a8, .ref a9, .ref a10, .ref a11, .int 0]))]) [10, 0] rfl
        have hDc := hD.sub (ws' := [(h0, .inr (5, [.ref s0, .ref de, .ref kl, .ref tl, .ref cu, .ref hk, .ref ca, .int 0, .int 0, .int (-1), .int 0, .int 0])), (s0, .inr (3, [.ref a0, .ref a1, .ref a2, .ref a3, .ref a4, .ref a5, .ref a6, .int 0, .ref a7, .ref a8, .ref a9, .ref a10, .ref a11, .int 0]))]) [10, 0] (by decide) rfl
        have hFc := va_free (wc := [(h0, .inr (5, [.ref s0, .ref de, .ref kl, .ref tl, .ref cu, .ref hk, .ref ca, .int 0, .int 0, .int (-1), .int 0, .int 0])), (s0, .inr (3, [.ref a0, .ref a1, .ref a2, .ref a3, .ref a4, .ref a5, .ref a6, .int 0, .ref a7, .ref a8, .ref a9, .ref a10, .ref a11, .int 0]))]) hD hS hA [10, 0] rfl
        refine vx_callv (vx_runV (As := [.int p2]) (rest := []) ⟨hx, hb, hml, hown, ht⟩ (k5_requireValue l hl0 D C b0 H.size h0 s0 de kl tl cu hk ca a0 a1 a2 a3 a4 a5 a6 a7 a8 a9 a10 a11 p2) (cwV 1 ht (xg_V m_337 m_338 m_339 m_281 m_178) rfl rfl rfl (by decide +kernel) ⟨Nat.le_of_ble_eq_true rfl, Nat.le_of_ble_eq_true rfl⟩) ⟨xPc_bl, va_recv hK hPc (ci := 5) (q0 := 0) rfl rfl, xPc_at hPc hK hDc hE hS hAb⟩ rfl rfl hl.1 rfl (lv_room (Nat.le_of_ble_eq_true rfl)) dX5_function_30 ⟨(by decide), (by decide)⟩) hS (fun q _ h => hFc q h) hFc (fun q _ h => hFc q h) (fun E ce q9 u9 t9 H9 locs9 e9 v9 p9 b9 z9 k9 hS9 hc9 hn9 hf9 => ?_) (fun u_3 t H1 locs ht1 hvm hw hB hz1 hk1 hS => ?_)
        · skip
          obtain rfl := b9
          exact vx_out (mc := 3) (ms := 18) (fun x hx => (htab x hx).elim) hlocks hc9 hn9 hf9 (fun t ht1 hW1 => ⟨(), fun h => p9.elim h.2.2.1 (fun z => z h.2.2.2), rfl, hS9.F ht1⟩) hS9.2.2 (by decide) (by decide)
        · skip
          obtain ⟨hP1, hD1⟩ := hB
          rw [ht1] at hP1
          try dsimp only at hw
          obtain ⟨hP, hD⟩ := va_join (wr := [(a0, .inl (C 0, 600, .inl f0)), (a1, .inl (C 0, 600, .inl f1)), (a2, .inl (C 1, 600, .inl f2)), (a3, .inl (C 0, 600, .inl f3)), (a4, .inl (C 0, 600, .inl f4)), (a5, .inl (C 0, 600, .inl f5)), (a6, .inl (C 0, 600, .inl f6)), (kl, .inr (2, [.ref kx, .ref ky, .int 0])), (tl, .inr (4, [.ref tx, .ref ty, .int 2]))]) (w1 := [(h0, .inr (5, [.ref s0, .ref de, .ref kl, .ref tl, .ref cu, .ref hk, .ref ca, .int 0, .int 0, .int (-1), .int 0, .int 0])), (s0, .inr (3, [.ref a0, .ref a1, .ref a2, .ref a3, .ref a4, .ref a5, .ref a6, .int 0, .ref a7, .ref a8, .ref a9, .ref a10, .ref a11, .int 0]))]) hP hD [10, 0] [1, 2, 3, 4, 5, 6, 7, 8, 9] rfl rfl (by decide) (by decide) hk1 hFc hP1 hD1
          generalize H1 = H at hP hS ⊢
          have hP : va_P D vwCl [(a0, .inl (C 0, 600, .inl f0)), (a1, .inl (C 0, 600, .inl f1)), (a2, .inl (C 1, 600, .inl f2)), (a3, .inl (C 0, 600, .inl f3)), (a4, .inl (C 0, 600, .inl f4)), (a5, .inl (C 0, 600, .inl f5)), (a6, .inl (C 0, 600, .inl f6)), (kl, .inr (2, [.ref kx, .ref ky, .int 0])), (tl, .inr (4, [.ref tx, .ref ty, .int 2])), (h0, .inr (5, [.ref s0, .ref de, .ref kl, .ref tl, .ref cu, .ref hk, .ref ca, .int 0, .int 0, .int (-1), .int 0, .int 0])), (s0, .inr (3, [.ref a0, .ref a1, .ref a2, .ref a3, .ref a4, .ref a5, .ref a6, .int 0, .ref a7, .ref a8, .ref a9, .ref a10, .ref a11, .int 0]))] H := hP
          have hD : va_D A [(a0, .inl (C 0, 600, .inl f0)), (a1, .inl (C 0, 600, .inl f1)), (a2, .inl (C 1, 600, .inl f2)), (a3, .inl (C 0, 600, .inl f3)), (a4, .inl (C 0, 600, .inl f4)), (a5, .inl (C 0, 600, .inl f5)), (a6, .inl (C 0, 600, .inl f6)), (kl, .inr (2, [.ref kx, .ref ky, .int 0])), (tl, .inr (4, [.ref tx, .ref ty, .int 2])), (h0, .inr (5, [.ref s0, .ref de, .ref kl, .ref tl, .ref cu, .ref hk, .ref ca, .int 0, .int 0, .int (-1), .int 0, .int 0])), (s0, .inr (3, [.ref a0, .ref a1, .ref a2, .ref a3, .ref a4, .ref a5, .ref a6, .int 0, .ref a7, .ref a8, .ref a9, .ref a10, .ref a11, .int 0]))] := hD
          have hq_30 := hw
          refine W.widen (k := 2) (n := 12) (by decide) (by decide) ?_
          refine lv_aload_n hx hb dX5_function_33 rfl (lv_at hl 0 rfl) ?_
          refine va_get (D := D) (ci := 5) (v := .ref s0) (C := RX5) (T := TX5) (N := 12) hx hb ht inX5 hown hK hP 9 rfl rfl 0 (by decide) (ht _ m_274) (fun _ h9 => h9) rfl dX5_function_34 ?_
          refine lv_iload_n hx hb dX5_function_37 rfl (lv_at hl 1 rfl) ?_
          refine lv_iload_n hx hb dX5_function_38 rfl (lv_at hl 2 rfl) ?_
          refine lv_iload_n hx hb dX5_function_39 rfl (lv_at hl 3 rfl) ?_
          have hPc := hP.sub (ws' := [(s0, .inr (3, [.ref a0, .ref a1, .ref a2, .ref a3, .ref a4, .ref a5, .ref a6, .int 0, .ref a7, .ref a8, .ref a9, .ref a10, .ref a11, .int 0])), (a0, .inl (C 0, 600, .inl f0)), (a1, .inl (C 0, 600, .inl f1)), (a2, .inl (C 1, 600, .inl f2)), (a3, .inl (C 0, 600, .inl f3)), (a4, .inl (C 0, 600, .inl f4)), (a5, .inl (C 0, 600, .inl f5)), (a6, .inl (C 0, 600, .inl f6))]) [10, 0, 1, 2, 3, 4, 5, 6] rfl
          have hDc := hD.sub (ws' := [(s0, .inr (3, [.ref a0, .ref a1, .ref a2, .ref a3, .ref a4, .ref a5, .ref a6, .int 0, .ref a7, .ref a8, .ref a9, .ref a10, .ref a11, .int 0])), (a0, .inl (C 0, 600, .inl f0)), (a1, .inl (C 0, 600, .inl f1)), (a2, .inl (C 1, 600, .inl f2)), (a3, .inl (C 0, 600, .inl f3)), (a4, .inl (C 0, 600, .inl f4)), (a5, .inl (C 0, 600, .inl f5)), (a6, .inl (C 0, 600, .inl f6))]) [10, 0, 1, 2, 3, 4, 5, 6] (by decide) rfl
          have hFc := va_free (wc := [(s0, .inr (3, [.ref a0, .ref a1, .ref a2, .ref a3, .ref a4, .ref a5, .ref a6, .int 0, .ref a7, .ref a8, .ref a9, .ref a10, .ref a11, .int 0])), (a0, .inl (C 0, 600, .inl f0)), (a1, .inl (C 0, 600, .inl f1)), (a2, .inl (C 1, 600, .inl f2)), (a3, .inl (C 0, 600, .inl f3)), (a4, .inl (C 0, 600, .inl f4)), (a5, .inl (C 0, 600, .inl f5)), (a6, .inl (C 0, 600, .inl f6))]) hD hS hA [10, 0, 1, 2, 3, 4, 5, 6] rfl
          refine va_calli (va_runV (As := [.int p0, .int p1, .int p2]) (rest := []) ⟨hx, hb, hml, hown, ht⟩ (k3_addFunction l D C b0 H.size s0 a0 a1 a2 a3 a4 a5 a6 a7 a8 a9 a10 a11 f0 f1 f2 f3 f4 f5 f6 p0 p1 p2) (cwV 3 ht (xg_V m_340 m_341 m_342 m_258 m_177) rfl rfl rfl (by decide +kernel) ⟨Nat.le_of_ble_eq_true rfl, Nat.le_of_ble_eq_true rfl⟩) ⟨xPc_bl, va_recv hK hPc (ci := 3) (q0 := 0) rfl rfl, xPc_at hPc hK hDc hE hS hAb⟩ rfl rfl hl.1 rfl (lv_room (Nat.le_of_ble_eq_true rfl)) dX5_function_40 ⟨(by decide), (by decide)⟩) hS (fun q _ h => hFc q h) hFc (fun r_4 u_5 t H1 locs ht1 hvm hw hB hz1 hk1 hS => ?_)
          obtain ⟨hP1, hD1⟩ := hB
          rw [ht1] at hP1
          try dsimp only at hw
          obtain ⟨hP, hD⟩ := va_join (wr := [(kl, .inr (2, [.ref kx, .ref ky, .int 0])), (tl, .inr (4, [.ref tx, .ref ty, .int 2])), (h0, .inr (5, [.ref s0, .ref de, .ref kl, .ref tl, .ref cu, .ref hk, .ref ca, .int 0, .int 0, .int (-1), .int 0, .int 0]))]) (w1 := []) hP hD [10, 0, 1, 2, 3, 4, 5, 6] [7, 8, 9] rfl rfl (by decide) (by decide) hk1 hFc hP1 hD1
          generalize H1 = H at hP hS ⊢
          have hP : va_P D vwCl [(kl, .inr (2, [.ref kx, .ref ky, .int 0])), (tl, .inr (4, [.ref tx, .ref ty, .int 2])), (h0, .inr (5, [.ref s0, .ref de, .ref kl, .ref tl, .ref cu, .ref hk, .ref ca, .int 0, .int 0, .int (-1), .int 0, .int 0]))] H := hP
          have hD : va_D A [(kl, .inr (2, [.ref kx, .ref ky, .int 0])), (tl, .inr (4, [.ref tx, .ref ty, .int 2])), (h0, .inr (5, [.ref s0, .ref de, .ref kl, .ref tl, .ref cu, .ref hk, .ref ca, .int 0, .int 0, .int (-1), .int 0, .int 0]))] := hD
          have hq_40 := hw
          obtain rfl : r_4 = (-2 : Int32) := hw
          have hP9 := hP.sub (ws' := []) [] rfl
          have hD9 := hD.sub (ws' := []) [] (by decide) rfl
          refine W.widen (k := 3) (n := 18) (by decide) (by decide) ?_
          refine vx_ret ?_
          exact W.iret (v := (-2)) hx hb hr (fun t ht1 hW => ⟨⟨(-2), (xA [], xF []), rfl, ⟨⟨⟨c_5, c_10⟩, hq_25, hq_30⟩, rfl⟩, by rw [ht1]; exact hP9, hD9⟩, hS.F ht1⟩) hS.2.2 dX5_function_43
    · skip
      exact x_thrI (text := "an act is 0 to 5") (mc := 3) (ms := 18) hx hb hl0 hown ht hE hAb (by decide +kernel) hS (by rw [hml]; exact hl.1) dX5_function_13 dX5_function_16 dX5_function_17 dX5_function_19 dX5_function_22 htab (Nat.le_of_ble_eq_true rfl) (Nat.le_of_ble_eq_true rfl) (by decide) (by decide) hlocks (fun t hv1 hz1 hq1 => ⟨(), by first | exact fun h => h.1.1 c_5 | exact fun h => c_10 h.1.2, rfl, x_F hS hz1 hq1⟩) hS.2.2 (by decide) (by decide)
set_option maxHeartbeats 4000000 in
set_option maxRecDepth 100000 in
theorem k5_proxy (l : Launch) (hl0 : l.stackTraces = false) (D : va_G) (C : Nat → ClassId) (b0 sz : Nat) (h0 : Nat) (s0 : Nat) (de : Nat) (kl : Nat) (tl : Nat) (cu : Nat) (hk : Nat) (ca : Nat) (kx : Nat) (ky : Nat) (tx : Nat) (ty : Nat) (a0 : Nat) (a1 : Nat) (a2 : Nat) (a3 : Nat) (a4 : Nat) (a5 : Nat) (a6 : Nat) (a7 : Nat) (a8 : Nat) (a9 : Nat) (a10 : Nat) (a11 : Nat) (p0 : Int32) (p1 : Int32) : vx_Met l yX5_proxy (xw yX5_proxy cX5_proxy 3 (some .int)) ({ frames := 48, cells := 3, slots := 18, locals := 900 }) (xPc D C b0 [.ref h0, .int p0, .int p1] [(h0, .inr (5, [.ref s0, .ref de, .ref kl, .ref tl, .ref cu, .ref hk, .ref ca, .int 0, .int 0, .int (-1), .int 0, .int 0])), (kl, .inr (2, [.ref kx, .ref ky, .int 0])), (tl, .inr (4, [.ref tx, .ref ty, .int 1])), (s0, .inr (3, [.ref a0, .ref a1, .ref a2, .ref a3, .ref a4, .ref a5, .ref a6, .int 0, .ref a7, .ref a8, .ref a9, .ref a10, .ref a11, .int 0]))] sz) (va_Qi (fun (r : Int32) (u : xS) => False) (xBw D (va_A [(h0, .inr (5, [.ref s0, .ref de, .ref kl, .ref tl, .ref cu, .ref hk, .ref ca, .int 0, .int 0, .int (-1), .int 0, .int 0])), (kl, .inr (2, [.ref kx, .ref ky, .int 0])), (tl, .inr (4, [.ref tx, .ref ty, .int 1])), (s0, .inr (3, [.ref a0, .ref a1, .ref a2, .ref a3, .ref a4, .ref a5, .ref a6, .int 0, .ref a7, .ref a8, .ref a9, .ref a10, .ref a11, .int 0]))] sz) (fun u => [])) (va_A [(h0, .inr (5, [.ref s0, .ref de, .ref kl, .ref tl, .ref cu, .ref hk, .ref ca, .int 0, .int 0, .int (-1), .int 0, .int 0])), (kl, .inr (2, [.ref kx, .ref ky, .int 0])), (tl, .inr (4, [.ref tx, .ref ty, .int 1])), (s0, .inr (3, [.ref a0, .ref a1, .ref a2, .ref a3, .ref a4, .ref a5, .ref a6, .int 0, .ref a7, .ref a8, .ref a9, .ref a10, .ref a11, .int 0]))] sz)) (xX xIAE (True) (va_A [(h0, .inr (5, [.ref s0, .ref de, .ref kl, .ref tl, .ref cu, .ref hk, .ref ca, .int 0, .int 0, .int (-1), .int 0, .int 0])), (kl, .inr (2, [.ref kx, .ref ky, .int 0])), (tl, .inr (4, [.ref tx, .ref ty, .int 1])), (s0, .inr (3, [.ref a0, .ref a1, .ref a2, .ref a3, .ref a4, .ref a5, .ref a6, .int 0, .ref a7, .ref a8, .ref a9, .ref a10, .ref a11, .int 0]))] sz)) 3 18 (va_A [(h0, .inr (5, [.ref s0, .ref de, .ref kl, .ref tl, .ref cu, .ref hk, .ref ca, .int 0, .int 0, .int (-1), .int 0, .int 0])), (kl, .inr (2, [.ref kx, .ref ky, .int 0])), (tl, .inr (4, [.ref tx, .ref ty, .int 1])), (s0, .inr (3, [.ref a0, .ref a1, .ref a2, .ref a3, .ref a4, .ref a5, .ref a6, .int 0, .ref a7, .ref a8, .ref a9, .ref a10, .ref a11, .int 0]))] sz) := by
  refine vx_ofW (cc := cX5_proxy) (maxL := 3) (ret := (some .int)) (by decide) rfl ?_
  intro p e s m args below meth c s₁ B hml htab hv
  obtain ⟨rfl, hsz, hP, hK, hD0, hE⟩ := hv
  have hx := B.exec
  have hb := B.bytes
  have hr := B.returns
  have ht : ∀ w ∈ xb, w.before _ s = true := fun w h => atoms_spec (ws := xw yX5_proxy cX5_proxy 3 (some .int)) B.pre w (List.mem_cons_of_mem _ h)
  have hown : s.vm.findClass RX5 = some m.cls := findClass_of_methodNamed B.named
  have hlocks := B.notSynchronized
  subst hsz
  have hAb := x_Ab hD0 hE.1
  have hD := hD0.self (sz := s.heap.size)
  generalize hAe : va_A [(h0, .inr (5, [.ref s0, .ref de, .ref kl, .ref tl, .ref cu, .ref hk, .ref ca, .int 0, .int 0, .int (-1), .int 0, .int 0])), (kl, .inr (2, [.ref kx, .ref ky, .int 0])), (tl, .inr (4, [.ref tx, .ref ty, .int 1])), (s0, .inr (3, [.ref a0, .ref a1, .ref a2, .ref a3, .ref a4, .ref a5, .ref a6, .int 0, .ref a7, .ref a8, .ref a9, .ref a10, .ref a11, .int 0]))] s.heap.size = A at hD hAb ⊢
  have hA : ∀ q : Nat, s.heap.size ≤ q → A q := fun q h => by rw [← hAe]; exact Or.inr h
  have hS : va_S A s.heap s.heap [] := va_S.rf
  have hP : va_P D vwCl [(h0, .inr (5, [.ref s0, .ref de, .ref kl, .ref tl, .ref cu, .ref hk, .ref ca, .int 0, .int 0, .int (-1), .int 0, .int 0])), (kl, .inr (2, [.ref kx, .ref ky, .int 0])), (tl, .inr (4, [.ref tx, .ref ty, .int 1])), (s0, .inr (3, [.ref a0, .ref a1, .ref a2, .ref a3, .ref a4, .ref a5, .ref a6, .int 0, .ref a7, .ref a8, .ref a9, .ref a10, .ref a11, .int 0]))] s.heap := hP
  have hl := lv_entry ([.ref h0, .int p0, .int p1]) (n := 3) (Nat.le_of_ble_eq_true rfl)
  rw [lg_entry_eq]
  generalize (lg_sl ([.ref h0, .int p0, .int p1]) ++ List.replicate (3 - (lg_sl ([.ref h0, .int p0, .int p1])).length) Slot.unset).toArray = ls at hl ⊢
  have hl : lv_has ls 3 [(0, .ref h0), (1, .int p0), (2, .int p1)] := hl
  refine lv_aload_n hx hb dX5_proxy_0 rfl (lv_at hl 0 rfl) ?_
  have hPc := hP.sub (ws' := [(h0, .inr (5, [.ref s0, .ref de, .ref kl, .ref tl, .ref cu, .ref hk, .ref ca, .int 0, .int 0, .int (-1), .int 0, .int 0])), (kl, .inr (2, [.ref kx, .ref ky, .int 0])), (tl, .inr (4, [.ref tx, .ref ty, .int 1]))]) [0, 1, 2] rfl
  have hDc := hD.sub (ws' := [(h0, .inr (5, [.ref s0, .ref de, .ref kl, .ref tl, .ref cu, .ref hk, .ref ca, .int 0, .int 0, .int (-1), .int 0, .int 0])), (kl, .inr (2, [.ref kx, .ref ky, .int 0])), (tl, .inr (4, [.ref tx, .ref ty, .int 1]))]) [0, 1, 2] (by decide) rfl
  have hFc := va_free (wc := [(h0, .inr (5, [.ref s0, .ref de, .ref kl, .ref tl, .ref cu, .ref hk, .ref ca, .int 0, .int 0, .int (-1), .int 0, .int 0])), (kl, .inr (2, [.ref kx, .ref ky, .int 0])), (tl, .inr (4, [.ref tx, .ref ty, .int 1]))]) hD hS hA [0, 1, 2] rfl
  refine va_callv (va_runV (As := []) (rest := []) ⟨hx, hb, hml, hown, ht⟩ (k5_begin l D C b0 s.heap.size h0 s0 de kl tl cu hk ca kx ky tx ty) (cwV 0 ht (xg_V m_322 m_323 m_324 m_281 m_162) rfl rfl rfl (by decide +kernel) ⟨Nat.le_of_ble_eq_true rfl, Nat.le_of_ble_eq_true rfl⟩) ⟨xPc_bl, va_recv hK hPc (ci := 5) (q0 := 0) rfl rfl, xPc_at hPc hK hDc hE hS hAb⟩ rfl rfl hl.1 rfl (lv_room (Nat.le_of_ble_eq_true rfl)) dX5_proxy_1 ⟨(by decide), (by decide)⟩) hS (fun q _ h => hFc q h) hFc (fun u_1 t H1 locs ht1 hvm hw hB hz1 hk1 hS => ?_)
  obtain ⟨hP1, hD1⟩ := hB
  rw [ht1] at hP1
  try dsimp only at hw
  obtain ⟨hP, hD⟩ := va_join (wr := [(s0, .inr (3, [.ref a0, .ref a1, .ref a2, .ref a3, .ref a4, .ref a5, .ref a6, .int 0, .ref a7, .ref a8, .ref a9, .ref a10, .ref a11, .int 0]))]) (w1 := [(h0, .inr (5, [.ref s0, .ref de, .ref kl, .ref tl, .ref cu, .ref hk, .ref ca, .int 0, .int 0, .int (-1), .int 0, .int 0])), (kl, .inr (2, [.ref kx, .ref ky, .int 0])), (tl, .inr (4, [.ref tx, .ref ty, .int 2]))]) hP hD [0, 1, 2] [3] rfl rfl (by decide) (by decide) hk1 hFc hP1 hD1
  generalize H1 = H at hP hS ⊢
  have hP : va_P D vwCl [(s0, .inr (3, [.ref a0, .ref a1, .ref a2, .ref a3, .ref a4, .ref a5, .ref a6, .int 0, .ref a7, .ref a8, .ref a9, .ref a10, .ref a11, .int 0])), (h0, .inr (5, [.ref s0, .ref de, .ref kl, .ref tl, .ref cu, .ref hk, .ref ca, .int 0, .int 0, .int (-1), .int 0, .int 0])), (kl, .inr (2, [.ref kx, .ref ky, .int 0])), (tl, .inr (4, [.ref tx, .ref ty, .int 2]))] H := hP
  have hD : va_D A [(s0, .inr (3, [.ref a0, .ref a1, .ref a2, .ref a3, .ref a4, .ref a5, .ref a6, .int 0, .ref a7, .ref a8, .ref a9, .ref a10, .ref a11, .int 0])), (h0, .inr (5, [.ref s0, .ref de, .ref kl, .ref tl, .ref cu, .ref hk, .ref ca, .int 0, .int 0, .int (-1), .int 0, .int 0])), (kl, .inr (2, [.ref kx, .ref ky, .int 0])), (tl, .inr (4, [.ref tx, .ref ty, .int 2]))] := hD
  have hq_1 := hw
  refine lv_aload_n hx hb dX5_proxy_4 rfl (lv_at hl 0 rfl) ?_
  refine lv_iload_n hx hb dX5_proxy_5 rfl (lv_at hl 1 rfl) ?_
  have hPc := hP.sub (ws' := [(h0, .inr (5, [.ref s0, .ref de, .ref kl, .ref tl, .ref cu, .ref hk, .ref ca, .int 0, .int 0, .int (-1), .int 0, .int 0])), (s0, .inr (3, [.ref a0, .ref a1, .ref a2, .ref a3, .ref a4, .ref a5, .ref a6, .int 0, .ref a7, .ref a8, .ref a9, .ref a10, .ref a11, .int 0]))]) [1, 0] rfl
  have hDc := hD.sub (ws' := [(h0, .inr (5, [.ref s0, .ref de, .ref kl, .ref tl, .ref cu, .ref hk, .ref ca, .int 0, .int 0, .int (-1), .int 0, .int 0])), (s0, .inr (3, [.ref a0, .ref a1, .ref a2, .ref a3, .ref a4, .ref a5, .ref a6, .int 0, .ref a7, .ref a8, .ref a9, .ref a10, .ref a11, .int 0]))]) [1, 0] (by decide) rfl
  have hFc := va_free (wc := [(h0, .inr (5, [.ref s0, .ref de, .ref kl, .ref tl, .ref cu, .ref hk, .ref ca, .int 0, .int 0, .int (-1), .int 0, .int 0])), (s0, .inr (3, [.ref a0, .ref a1, .ref a2, .ref a3, .ref a4, .ref a5, .ref a6, .int 0, .ref a7, .ref a8, .ref a9, .ref a10, .ref a11, .int 0]))]) hD hS hA [1, 0] rfl
  refine vx_callv (vx_runV (As := [.int p0]) (rest := []) ⟨hx, hb, hml, hown, ht⟩ (k5_requireObject l hl0 D C b0 H.size h0 s0 de kl tl cu hk ca a0 a1 a2 a3 a4 a5 a6 a7 a8 a9 a10 a11 p0) (cwV 1 ht (xg_V m_278 m_279 m_280 m_281 m_163) rfl rfl rfl (by decide +kernel) ⟨Nat.le_of_ble_eq_true rfl, Nat.le_of_ble_eq_true rfl⟩) ⟨xPc_bl, va_recv hK hPc (ci := 5) (q0 := 0) rfl rfl, xPc_at hPc hK hDc hE hS hAb⟩ rfl rfl hl.1 rfl (lv_room (Nat.le_of_ble_eq_true rfl)) dX5_proxy_6 ⟨(by decide), (by decide)⟩) hS (fun q _ h => hFc q h) hFc (fun q _ h => hFc q h) (fun E ce q9 u9 t9 H9 locs9 e9 v9 p9 b9 z9 k9 hS9 hc9 hn9 hf9 => ?_) (fun u_2 t H1 locs ht1 hvm hw hB hz1 hk1 hS => ?_)
  · skip
    obtain rfl := b9
    exact vx_out (mc := 3) (ms := 18) (fun x hx => (htab x hx).elim) hlocks hc9 hn9 hf9 (fun t ht1 hW1 => ⟨(), by first | exact p9 | trivial | assumption | (simp_all; done), rfl, hS9.F ht1⟩) hS9.2.2 (by decide) (by decide)
  · exact hw.elim
set_option maxHeartbeats 4000000 in
set_option maxRecDepth 100000 in
theorem k5_get (l : Launch) (hl0 : l.stackTraces = false) (D : va_G) (C : Nat → ClassId) (b0 sz : Nat) (h0 : Nat) (s0 : Nat) (de : Nat) (kl : Nat) (tl : Nat) (cu : Nat) (hk : Nat) (ca : Nat) (kx : Nat) (ky : Nat) (tx : Nat) (ty : Nat) (a0 : Nat) (a1 : Nat) (a2 : Nat) (a3 : Nat) (a4 : Nat) (a5 : Nat) (a6 : Nat) (a7 : Nat) (a8 : Nat) (a9 : Nat) (a10 : Nat) (a11 : Nat) (p0 : Int32) (p1 : Int32) (p2 : Int32) (p3 : Int32) : vx_Met l yX5_get (xw yX5_get cX5_get 5 (some .int)) ({ frames := 48, cells := 3, slots := 18, locals := 900 }) (xPc D C b0 [.ref h0, .int p0, .int p1, .int p2, .int p3] [(h0, .inr (5, [.ref s0, .ref de, .ref kl, .ref tl, .ref cu, .ref hk, .ref ca, .int 0, .int 0, .int (-1), .int 0, .int 0])), (kl, .inr (2, [.ref kx, .ref ky, .int 0])), (tl, .inr (4, [.ref tx, .ref ty, .int 1])), (s0, .inr (3, [.ref a0, .ref a1, .ref a2, .ref a3, .ref a4, .ref a5, .ref a6, .int 0, .ref a7, .ref a8, .ref a9, .ref a10, .ref a11, .int 0]))] sz) (va_Qi (fun (r : Int32) (u : xS) => False) (xBw D (va_A [(h0, .inr (5, [.ref s0, .ref de, .ref kl, .ref tl, .ref cu, .ref hk, .ref ca, .int 0, .int 0, .int (-1), .int 0, .int 0])), (kl, .inr (2, [.ref kx, .ref ky, .int 0])), (tl, .inr (4, [.ref tx, .ref ty, .int 1])), (s0, .inr (3, [.ref a0, .ref a1, .ref a2, .ref a3, .ref a4, .ref a5, .ref a6, .int 0, .ref a7, .ref a8, .ref a9, .ref a10, .ref a11, .int 0]))] sz) (fun u => [])) (va_A [(h0, .inr (5, [.ref s0, .ref de, .ref kl, .ref tl, .ref cu, .ref hk, .ref ca, .int 0, .int 0, .int (-1), .int 0, .int 0])), (kl, .inr (2, [.ref kx, .ref ky, .int 0])), (tl, .inr (4, [.ref tx, .ref ty, .int 1])), (s0, .inr (3, [.ref a0, .ref a1, .ref a2, .ref a3, .ref a4, .ref a5, .ref a6, .int 0, .ref a7, .ref a8, .ref a9, .ref a10, .ref a11, .int 0]))] sz)) (xX xIAE (True) (va_A [(h0, .inr (5, [.ref s0, .ref de, .ref kl, .ref tl, .ref cu, .ref hk, .ref ca, .int 0, .int 0, .int (-1), .int 0, .int 0])), (kl, .inr (2, [.ref kx, .ref ky, .int 0])), (tl, .inr (4, [.ref tx, .ref ty, .int 1])), (s0, .inr (3, [.ref a0, .ref a1, .ref a2, .ref a3, .ref a4, .ref a5, .ref a6, .int 0, .ref a7, .ref a8, .ref a9, .ref a10, .ref a11, .int 0]))] sz)) 3 18 (va_A [(h0, .inr (5, [.ref s0, .ref de, .ref kl, .ref tl, .ref cu, .ref hk, .ref ca, .int 0, .int 0, .int (-1), .int 0, .int 0])), (kl, .inr (2, [.ref kx, .ref ky, .int 0])), (tl, .inr (4, [.ref tx, .ref ty, .int 1])), (s0, .inr (3, [.ref a0, .ref a1, .ref a2, .ref a3, .ref a4, .ref a5, .ref a6, .int 0, .ref a7, .ref a8, .ref a9, .ref a10, .ref a11, .int 0]))] sz) := by
  refine vx_ofW (cc := cX5_get) (maxL := 5) (ret := (some .int)) (by decide) rfl ?_
  intro p e s m args below meth c s₁ B hml htab hv
  obtain ⟨rfl, hsz, hP, hK, hD0, hE⟩ := hv
  have hx := B.exec
  have hb := B.bytes
  have hr := B.returns
  have ht : ∀ w ∈ xb, w.before _ s = true := fun w h => atoms_spec (ws := xw yX5_get cX5_get 5 (some .int)) B.pre w (List.mem_cons_of_mem _ h)
  have hown : s.vm.findClass RX5 = some m.cls := findClass_of_methodNamed B.named
  have hlocks := B.notSynchronized
  subst hsz
  have hAb := x_Ab hD0 hE.1
  have hD := hD0.self (sz := s.heap.size)
  generalize hAe : va_A [(h0, .inr (5, [.ref s0, .ref de, .ref kl, .ref tl, .ref cu, .ref hk, .ref ca, .int 0, .int 0, .int (-1), .int 0, .int 0])), (kl, .inr (2, [.ref kx, .ref ky, .int 0])), (tl, .inr (4, [.ref tx, .ref ty, .int 1])), (s0, .inr (3, [.ref a0, .ref a1, .ref a2, .ref a3, .ref a4, .ref a5, .ref a6, .int 0, .ref a7, .ref a8, .ref a9, .ref a10, .ref a11, .int 0]))] s.heap.size = A at hD hAb ⊢
  have hA : ∀ q : Nat, s.heap.size ≤ q → A q := fun q h => by rw [← hAe]; exact Or.inr h
  have hS : va_S A s.heap s.heap [] := va_S.rf
  have hP : va_P D vwCl [(h0, .inr (5, [.ref s0, .ref de, .ref kl, .ref tl, .ref cu, .ref hk, .ref ca, .int 0, .int 0, .int (-1), .int 0, .int 0])), (kl, .inr (2, [.ref kx, .ref ky, .int 0])), (tl, .inr (4, [.ref tx, .ref ty, .int 1])), (s0, .inr (3, [.ref a0, .ref a1, .ref a2, .ref a3, .ref a4, .ref a5, .ref a6, .int 0, .ref a7, .ref a8, .ref a9, .ref a10, .ref a11, .int 0]))] s.heap := hP
  have hl := lv_entry ([.ref h0, .int p0, .int p1, .int p2, .int p3]) (n := 5) (Nat.le_of_ble_eq_true rfl)
  rw [lg_entry_eq]
  generalize (lg_sl ([.ref h0, .int p0, .int p1, .int p2, .int p3]) ++ List.replicate (5 - (lg_sl ([.ref h0, .int p0, .int p1, .int p2, .int p3])).length) Slot.unset).toArray = ls at hl ⊢
  have hl : lv_has ls 5 [(0, .ref h0), (1, .int p0), (2, .int p1), (3, .int p2), (4, .int p3)] := hl
  refine lv_aload_n hx hb dX5_get_0 rfl (lv_at hl 0 rfl) ?_
  have hPc := hP.sub (ws' := [(h0, .inr (5, [.ref s0, .ref de, .ref kl, .ref tl, .ref cu, .ref hk, .ref ca, .int 0, .int 0, .int (-1), .int 0, .int 0])), (kl, .inr (2, [.ref kx, .ref ky, .int 0])), (tl, .inr (4, [.ref tx, .ref ty, .int 1]))]) [0, 1, 2] rfl
  have hDc := hD.sub (ws' := [(h0, .inr (5, [.ref s0, .ref de, .ref kl, .ref tl, .ref cu, .ref hk, .ref ca, .int 0, .int 0, .int (-1), .int 0, .int 0])), (kl, .inr (2, [.ref kx, .ref ky, .int 0])), (tl, .inr (4, [.ref tx, .ref ty, .int 1]))]) [0, 1, 2] (by decide) rfl
  have hFc := va_free (wc := [(h0, .inr (5, [.ref s0, .ref de, .ref kl, .ref tl, .ref cu, .ref hk, .ref ca, .int 0, .int 0, .int (-1), .int 0, .int 0])), (kl, .inr (2, [.ref kx, .ref ky, .int 0])), (tl, .inr (4, [.ref tx, .ref ty, .int 1]))]) hD hS hA [0, 1, 2] rfl
  refine va_callv (va_runV (As := []) (rest := []) ⟨hx, hb, hml, hown, ht⟩ (k5_begin l D C b0 s.heap.size h0 s0 de kl tl cu hk ca kx ky tx ty) (cwV 0 ht (xg_V m_322 m_323 m_324 m_281 m_162) rfl rfl rfl (by decide +kernel) ⟨Nat.le_of_ble_eq_true rfl, Nat.le_of_ble_eq_true rfl⟩) ⟨xPc_bl, va_recv hK hPc (ci := 5) (q0 := 0) rfl rfl, xPc_at hPc hK hDc hE hS hAb⟩ rfl rfl hl.1 rfl (lv_room (Nat.le_of_ble_eq_true rfl)) dX5_get_1 ⟨(by decide), (by decide)⟩) hS (fun q _ h => hFc q h) hFc (fun u_1 t H1 locs ht1 hvm hw hB hz1 hk1 hS => ?_)
  obtain ⟨hP1, hD1⟩ := hB
  rw [ht1] at hP1
  try dsimp only at hw
  obtain ⟨hP, hD⟩ := va_join (wr := [(s0, .inr (3, [.ref a0, .ref a1, .ref a2, .ref a3, .ref a4, .ref a5, .ref a6, .int 0, .ref a7, .ref a8, .ref a9, .ref a10, .ref a11, .int 0]))]) (w1 := [(h0, .inr (5, [.ref s0, .ref de, .ref kl, .ref tl, .ref cu, .ref hk, .ref ca, .int 0, .int 0, .int (-1), .int 0, .int 0])), (kl, .inr (2, [.ref kx, .ref ky, .int 0])), (tl, .inr (4, [.ref tx, .ref ty, .int 2]))]) hP hD [0, 1, 2] [3] rfl rfl (by decide) (by decide) hk1 hFc hP1 hD1
  generalize H1 = H at hP hS ⊢
  have hP : va_P D vwCl [(s0, .inr (3, [.ref a0, .ref a1, .ref a2, .ref a3, .ref a4, .ref a5, .ref a6, .int 0, .ref a7, .ref a8, .ref a9, .ref a10, .ref a11, .int 0])), (h0, .inr (5, [.ref s0, .ref de, .ref kl, .ref tl, .ref cu, .ref hk, .ref ca, .int 0, .int 0, .int (-1), .int 0, .int 0])), (kl, .inr (2, [.ref kx, .ref ky, .int 0])), (tl, .inr (4, [.ref tx, .ref ty, .int 2]))] H := hP
  have hD : va_D A [(s0, .inr (3, [.ref a0, .ref a1, .ref a2, .ref a3, .ref a4, .ref a5, .ref a6, .int 0, .ref a7, .ref a8, .ref a9, .ref a10, .ref a11, .int 0])), (h0, .inr (5, [.ref s0, .ref de, .ref kl, .ref tl, .ref cu, .ref hk, .ref ca, .int 0, .int 0, .int (-1), .int 0, .int 0])), (kl, .inr (2, [.ref kx, .ref ky, .int 0])), (tl, .inr (4, [.ref tx, .ref ty, .int 2]))] := hD
  have hq_1 := hw
  refine lv_aload_n hx hb dX5_get_4 rfl (lv_at hl 0 rfl) ?_
  refine lv_iload_n hx hb dX5_get_5 rfl (lv_at hl 1 rfl) ?_
  have hPc := hP.sub (ws' := [(h0, .inr (5, [.ref s0, .ref de, .ref kl, .ref tl, .ref cu, .ref hk, .ref ca, .int 0, .int 0, .int (-1), .int 0, .int 0])), (s0, .inr (3, [.ref a0, .ref a1, .ref a2, .ref a3, .ref a4, .ref a5, .ref a6, .int 0, .ref a7, .ref a8, .ref a9, .ref a10, .ref a11, .int 0]))]) [1, 0] rfl
  have hDc := hD.sub (ws' := [(h0, .inr (5, [.ref s0, .ref de, .ref kl, .ref tl, .ref cu, .ref hk, .ref ca, .int 0, .int 0, .int (-1), .int 0, .int 0])), (s0, .inr (3, [.ref a0, .ref a1, .ref a2, .ref a3, .ref a4, .ref a5, .ref a6, .int 0, .ref a7, .ref a8, .ref a9, .ref a10, .ref a11, .int 0]))]) [1, 0] (by decide) rfl
  have hFc := va_free (wc := [(h0, .inr (5, [.ref s0, .ref de, .ref kl, .ref tl, .ref cu, .ref hk, .ref ca, .int 0, .int 0, .int (-1), .int 0, .int 0])), (s0, .inr (3, [.ref a0, .ref a1, .ref a2, .ref a3, .ref a4, .ref a5, .ref a6, .int 0, .ref a7, .ref a8, .ref a9, .ref a10, .ref a11, .int 0]))]) hD hS hA [1, 0] rfl
  refine vx_callv (vx_runV (As := [.int p0]) (rest := []) ⟨hx, hb, hml, hown, ht⟩ (k5_requireObject l hl0 D C b0 H.size h0 s0 de kl tl cu hk ca a0 a1 a2 a3 a4 a5 a6 a7 a8 a9 a10 a11 p0) (cwV 1 ht (xg_V m_278 m_279 m_280 m_281 m_163) rfl rfl rfl (by decide +kernel) ⟨Nat.le_of_ble_eq_true rfl, Nat.le_of_ble_eq_true rfl⟩) ⟨xPc_bl, va_recv hK hPc (ci := 5) (q0 := 0) rfl rfl, xPc_at hPc hK hDc hE hS hAb⟩ rfl rfl hl.1 rfl (lv_room (Nat.le_of_ble_eq_true rfl)) dX5_get_6 ⟨(by decide), (by decide)⟩) hS (fun q _ h => hFc q h) hFc (fun q _ h => hFc q h) (fun E ce q9 u9 t9 H9 locs9 e9 v9 p9 b9 z9 k9 hS9 hc9 hn9 hf9 => ?_) (fun u_2 t H1 locs ht1 hvm hw hB hz1 hk1 hS => ?_)
  · skip
    obtain rfl := b9
    exact vx_out (mc := 3) (ms := 18) (fun x hx => (htab x hx).elim) hlocks hc9 hn9 hf9 (fun t ht1 hW1 => ⟨(), by first | exact p9 | trivial | assumption | (simp_all; done), rfl, hS9.F ht1⟩) hS9.2.2 (by decide) (by decide)
  · exact hw.elim
set_option maxHeartbeats 4000000 in
set_option maxRecDepth 100000 in
theorem k5_set (l : Launch) (hl0 : l.stackTraces = false) (D : va_G) (C : Nat → ClassId) (b0 sz : Nat) (h0 : Nat) (s0 : Nat) (de : Nat) (kl : Nat) (tl : Nat) (cu : Nat) (hk : Nat) (ca : Nat) (kx : Nat) (ky : Nat) (tx : Nat) (ty : Nat) (a0 : Nat) (a1 : Nat) (a2 : Nat) (a3 : Nat) (a4 : Nat) (a5 : Nat) (a6 : Nat) (a7 : Nat) (a8 : Nat) (a9 : Nat) (a10 : Nat) (a11 : Nat) (p0 : Int32) (p1 : Int32) (p2 : Int32) (p3 : Int32) (p4 : Int32) : vx_Met l yX5_set (xw yX5_set cX5_set 6 (some .boolean)) ({ frames := 48, cells := 3, slots := 18, locals := 900 }) (xPc D C b0 [.ref h0, .int p0, .int p1, .int p2, .int p3, .int p4] [(h0, .inr (5, [.ref s0, .ref de, .ref kl, .ref tl, .ref cu, .ref hk, .ref ca, .int 0, .int 0, .int (-1), .int 0, .int 0])), (kl, .inr (2, [.ref kx, .ref ky, .int 0])), (tl, .inr (4, [.ref tx, .ref ty, .int 1])), (s0, .inr (3, [.ref a0, .ref a1, .ref a2, .ref a3, .ref a4, .ref a5, .ref a6, .int 0, .ref a7, .ref a8, .ref a9, .ref a10, .ref a11, .int 0]))] sz) (va_Qi (fun (r : Int32) (u : xS) => False) (xBw D (va_A [(h0, .inr (5, [.ref s0, .ref de, .ref kl, .ref tl, .ref cu, .ref hk, .ref ca, .int 0, .int 0, .int (-1), .int 0, .int 0])), (kl, .inr (2, [.ref kx, .ref ky, .int 0])), (tl, .inr (4, [.ref tx, .ref ty, .int 1])), (s0, .inr (3, [.ref a0, .ref a1, .ref a2, .ref a3, .ref a4, .ref a5, .ref a6, .int 0, .ref a7, .ref a8, .ref a9, .ref a10, .ref a11, .int 0]))] sz) (fun u => [])) (va_A [(h0, .inr (5, [.ref s0, .ref de, .ref kl, .ref tl, .ref cu, .ref hk, .ref ca, .int 0, .int 0, .int (-1), .int 0, .int 0])), (kl, .inr (2, [.ref kx, .ref ky, .int 0])), (tl, .inr (4, [.ref tx, .ref ty, .int 1])), (s0, .inr (3, [.ref a0, .ref a1, .ref a2, .ref a3, .ref a4, .ref a5, .ref a6, .int 0, .ref a7, .ref a8, .ref a9, .ref a10, .ref a11, .int 0]))] sz)) (xX xIAE (True) (va_A [(h0, .inr (5, [.ref s0, .ref de, .ref kl, .ref tl, .ref cu, .ref hk, .ref ca, .int 0, .int 0, .int (-1), .int 0, .int 0])), (kl, .inr (2, [.ref kx, .ref ky, .int 0])), (tl, .inr (4, [.ref tx, .ref ty, .int 1])), (s0, .inr (3, [.ref a0, .ref a1, .ref a2, .ref a3, .ref a4, .ref a5, .ref a6, .int 0, .ref a7, .ref a8, .ref a9, .ref a10, .ref a11, .int 0]))] sz)) 3 18 (va_A [(h0, .inr (5, [.ref s0, .ref de, .ref kl, .ref tl, .ref cu, .ref hk, .ref ca, .int 0, .int 0, .int (-1), .int 0, .int 0])), (kl, .inr (2, [.ref kx, .ref ky, .int 0])), (tl, .inr (4, [.ref tx, .ref ty, .int 1])), (s0, .inr (3, [.ref a0, .ref a1, .ref a2, .ref a3, .ref a4, .ref a5, .ref a6, .int 0, .ref a7, .ref a8, .ref a9, .ref a10, .ref a11, .int 0]))] sz) := by
  refine vx_ofW (cc := cX5_set) (maxL := 6) (ret := (some .boolean)) (by decide) rfl ?_
  intro p e s m args below meth c s₁ B hml htab hv
  obtain ⟨rfl, hsz, hP, hK, hD0, hE⟩ := hv
  have hx := B.exec
  have hb := B.bytes
  have hr := B.returns
  have ht : ∀ w ∈ xb, w.before _ s = true := fun w h => atoms_spec (ws := xw yX5_set cX5_set 6 (some .boolean)) B.pre w (List.mem_cons_of_mem _ h)
  have hown : s.vm.findClass RX5 = some m.cls := findClass_of_methodNamed B.named
  have hlocks := B.notSynchronized
  subst hsz
  have hAb := x_Ab hD0 hE.1
  have hD := hD0.self (sz := s.heap.size)
  generalize hAe : va_A [(h0, .inr (5, [.ref s0, .ref de, .ref kl, .ref tl, .ref cu, .ref hk, .ref ca, .int 0, .int 0, .int (-1), .int 0, .int 0])), (kl, .inr (2, [.ref kx, .ref ky, .int 0])), (tl, .inr (4, [.ref tx, .ref ty, .int 1])), (s0, .inr (3, [.ref a0, .ref a1, .ref a2, .ref a3, .ref a4, .ref a5, .ref a6, .int 0, .ref a7, .ref a8, .ref a9, .ref a10, .ref a11, .int 0]))] s.heap.size = A at hD hAb ⊢
  have hA : ∀ q : Nat, s.heap.size ≤ q → A q := fun q h => by rw [← hAe]; exact Or.inr h
  have hS : va_S A s.heap s.heap [] := va_S.rf
  have hP : va_P D vwCl [(h0, .inr (5, [.ref s0, .ref de, .ref kl, .ref tl, .ref cu, .ref hk, .ref ca, .int 0, .int 0, .int (-1), .int 0, .int 0])), (kl, .inr (2, [.ref kx, .ref ky, .int 0])), (tl, .inr (4, [.ref tx, .ref ty, .int 1])), (s0, .inr (3, [.ref a0, .ref a1, .ref a2, .ref a3, .ref a4, .ref a5, .ref a6, .int 0, .ref a7, .ref a8, .ref a9, .ref a10, .ref a11, .int 0]))] s.heap := hP
  have hl := lv_entry ([.ref h0, .int p0, .int p1, .int p2, .int p3, .int p4]) (n := 6) (Nat.le_of_ble_eq_true rfl)
  rw [lg_entry_eq]
  generalize (lg_sl ([.ref h0, .int p0, .int p1, .int p2, .int p3, .int p4]) ++ List.replicate (6 - (lg_sl ([.ref h0, .int p0, .int p1, .int p2, .int p3, .int p4])).length) Slot.unset).toArray = ls at hl ⊢
  have hl : lv_has ls 6 [(0, .ref h0), (1, .int p0), (2, .int p1), (3, .int p2), (4, .int p3), (5, .int p4)] := hl
  refine lv_aload_n hx hb dX5_set_0 rfl (lv_at hl 0 rfl) ?_
  have hPc := hP.sub (ws' := [(h0, .inr (5, [.ref s0, .ref de, .ref kl, .ref tl, .ref cu, .ref hk, .ref ca, .int 0, .int 0, .int (-1), .int 0, .int 0])), (kl, .inr (2, [.ref kx, .ref ky, .int 0])), (tl, .inr (4, [.ref tx, .ref ty, .int 1]))]) [0, 1, 2] rfl
  have hDc := hD.sub (ws' := [(h0, .inr (5, [.ref s0, .ref de, .ref kl, .ref tl, .ref cu, .ref hk, .ref ca, .int 0, .int 0, .int (-1), .int 0, .int 0])), (kl, .inr (2, [.ref kx, .ref ky, .int 0])), (tl, .inr (4, [.ref tx, .ref ty, .int 1]))]) [0, 1, 2] (by decide) rfl
  have hFc := va_free (wc := [(h0, .inr (5, [.ref s0, .ref de, .ref kl, .ref tl, .ref cu, .ref hk, .ref ca, .int 0, .int 0, .int (-1), .int 0, .int 0])), (kl, .inr (2, [.ref kx, .ref ky, .int 0])), (tl, .inr (4, [.ref tx, .ref ty, .int 1]))]) hD hS hA [0, 1, 2] rfl
  refine va_callv (va_runV (As := []) (rest := []) ⟨hx, hb, hml, hown, ht⟩ (k5_begin l D C b0 s.heap.size h0 s0 de kl tl cu hk ca kx ky tx ty) (cwV 0 ht (xg_V m_322 m_323 m_324 m_281 m_162) rfl rfl rfl (by decide +kernel) ⟨Nat.le_of_ble_eq_true rfl, Nat.le_of_ble_eq_true rfl⟩) ⟨xPc_bl, va_recv hK hPc (ci := 5) (q0 := 0) rfl rfl, xPc_at hPc hK hDc hE hS hAb⟩ rfl rfl hl.1 rfl (lv_room (Nat.le_of_ble_eq_true rfl)) dX5_set_1 ⟨(by decide), (by decide)⟩) hS (fun q _ h => hFc q h) hFc (fun u_1 t H1 locs ht1 hvm hw hB hz1 hk1 hS => ?_)
  obtain ⟨hP1, hD1⟩ := hB
  rw [ht1] at hP1
  try dsimp only at hw
  obtain ⟨hP, hD⟩ := va_join (wr := [(s0, .inr (3, [.ref a0, .ref a1, .ref a2, .ref a3, .ref a4, .ref a5, .ref a6, .int 0, .ref a7, .ref a8, .ref a9, .ref a10, .ref a11, .int 0]))]) (w1 := [(h0, .inr (5, [.ref s0, .ref de, .ref kl, .ref tl, .ref cu, .ref hk, .ref ca, .int 0, .int 0, .int (-1), .int 0, .int 0])), (kl, .inr (2, [.ref kx, .ref ky, .int 0])), (tl, .inr (4, [.ref tx, .ref ty, .int 2]))]) hP hD [0, 1, 2] [3] rfl rfl (by decide) (by decide) hk1 hFc hP1 hD1
  generalize H1 = H at hP hS ⊢
  have hP : va_P D vwCl [(s0, .inr (3, [.ref a0, .ref a1, .ref a2, .ref a3, .ref a4, .ref a5, .ref a6, .int 0, .ref a7, .ref a8, .ref a9, .ref a10, .ref a11, .int 0])), (h0, .inr (5, [.ref s0, .ref de, .ref kl, .ref tl, .ref cu, .ref hk, .ref ca, .int 0, .int 0, .int (-1), .int 0, .int 0])), (kl, .inr (2, [.ref kx, .ref ky, .int 0])), (tl, .inr (4, [.ref tx, .ref ty, .int 2]))] H := hP
  have hD : va_D A [(s0, .inr (3, [.ref a0, .ref a1, .ref a2, .ref a3, .ref a4, .ref a5, .ref a6, .int 0, .ref a7, .ref a8, .ref a9, .ref a10, .ref a11, .int 0])), (h0, .inr (5, [.ref s0, .ref de, .ref kl, .ref tl, .ref cu, .ref hk, .ref ca, .int 0, .int 0, .int (-1), .int 0, .int 0])), (kl, .inr (2, [.ref kx, .ref ky, .int 0])), (tl, .inr (4, [.ref tx, .ref ty, .int 2]))] := hD
  have hq_1 := hw
  refine lv_aload_n hx hb dX5_set_4 rfl (lv_at hl 0 rfl) ?_
  refine lv_iload_n hx hb dX5_set_5 rfl (lv_at hl 1 rfl) ?_
  have hPc := hP.sub (ws' := [(h0, .inr (5, [.ref s0, .ref de, .ref kl, .ref tl, .ref cu, .ref hk, .ref ca, .int 0, .int 0, .int (-1), .int 0, .int 0])), (s0, .inr (3, [.ref a0, .ref a1, .ref a2, .ref a3, .ref a4, .ref a5, .ref a6, .int 0, .ref a7, .ref a8, .ref a9, .ref a10, .ref a11, .int 0]))]) [1, 0] rfl
  have hDc := hD.sub (ws' := [(h0, .inr (5, [.ref s0, .ref de, .ref kl, .ref tl, .ref cu, .ref hk, .ref ca, .int 0, .int 0, .int (-1), .int 0, .int 0])), (s0, .inr (3, [.ref a0, .ref a1, .ref a2, .ref a3, .ref a4, .ref a5, .ref a6, .int 0, .ref a7, .ref a8, .ref a9, .ref a10, .ref a11, .int 0]))]) [1, 0] (by decide) rfl
  have hFc := va_free (wc := [(h0, .inr (5, [.ref s0, .ref de, .ref kl, .ref tl, .ref cu, .ref hk, .ref ca, .int 0, .int 0, .int (-1), .int 0, .int 0])), (s0, .inr (3, [.ref a0, .ref a1, .ref a2, .ref a3, .ref a4, .ref a5, .ref a6, .int 0, .ref a7, .ref a8, .ref a9, .ref a10, .ref a11, .int 0]))]) hD hS hA [1, 0] rfl
  refine vx_callv (vx_runV (As := [.int p0]) (rest := []) ⟨hx, hb, hml, hown, ht⟩ (k5_requireObject l hl0 D C b0 H.size h0 s0 de kl tl cu hk ca a0 a1 a2 a3 a4 a5 a6 a7 a8 a9 a10 a11 p0) (cwV 1 ht (xg_V m_278 m_279 m_280 m_281 m_163) rfl rfl rfl (by decide +kernel) ⟨Nat.le_of_ble_eq_true rfl, Nat.le_of_ble_eq_true rfl⟩) ⟨xPc_bl, va_recv hK hPc (ci := 5) (q0 := 0) rfl rfl, xPc_at hPc hK hDc hE hS hAb⟩ rfl rfl hl.1 rfl (lv_room (Nat.le_of_ble_eq_true rfl)) dX5_set_6 ⟨(by decide), (by decide)⟩) hS (fun q _ h => hFc q h) hFc (fun q _ h => hFc q h) (fun E ce q9 u9 t9 H9 locs9 e9 v9 p9 b9 z9 k9 hS9 hc9 hn9 hf9 => ?_) (fun u_2 t H1 locs ht1 hvm hw hB hz1 hk1 hS => ?_)
  · skip
    obtain rfl := b9
    exact vx_out (mc := 3) (ms := 18) (fun x hx => (htab x hx).elim) hlocks hc9 hn9 hf9 (fun t ht1 hW1 => ⟨(), by first | exact p9 | trivial | assumption | (simp_all; done), rfl, hS9.F ht1⟩) hS9.2.2 (by decide) (by decide)
  · exact hw.elim
set_option maxHeartbeats 4000000 in
set_option maxRecDepth 100000 in
theorem k5_has (l : Launch) (hl0 : l.stackTraces = false) (D : va_G) (C : Nat → ClassId) (b0 sz : Nat) (h0 : Nat) (s0 : Nat) (de : Nat) (kl : Nat) (tl : Nat) (cu : Nat) (hk : Nat) (ca : Nat) (kx : Nat) (ky : Nat) (tx : Nat) (ty : Nat) (a0 : Nat) (a1 : Nat) (a2 : Nat) (a3 : Nat) (a4 : Nat) (a5 : Nat) (a6 : Nat) (a7 : Nat) (a8 : Nat) (a9 : Nat) (a10 : Nat) (a11 : Nat) (p0 : Int32) (p1 : Int32) (p2 : Int32) : vx_Met l yX5_has (xw yX5_has cX5_has 4 (some .boolean)) ({ frames := 48, cells := 3, slots := 18, locals := 900 }) (xPc D C b0 [.ref h0, .int p0, .int p1, .int p2] [(h0, .inr (5, [.ref s0, .ref de, .ref kl, .ref tl, .ref cu, .ref hk, .ref ca, .int 0, .int 0, .int (-1), .int 0, .int 0])), (kl, .inr (2, [.ref kx, .ref ky, .int 0])), (tl, .inr (4, [.ref tx, .ref ty, .int 1])), (s0, .inr (3, [.ref a0, .ref a1, .ref a2, .ref a3, .ref a4, .ref a5, .ref a6, .int 0, .ref a7, .ref a8, .ref a9, .ref a10, .ref a11, .int 0]))] sz) (va_Qi (fun (r : Int32) (u : xS) => False) (xBw D (va_A [(h0, .inr (5, [.ref s0, .ref de, .ref kl, .ref tl, .ref cu, .ref hk, .ref ca, .int 0, .int 0, .int (-1), .int 0, .int 0])), (kl, .inr (2, [.ref kx, .ref ky, .int 0])), (tl, .inr (4, [.ref tx, .ref ty, .int 1])), (s0, .inr (3, [.ref a0, .ref a1, .ref a2, .ref a3, .ref a4, .ref a5, .ref a6, .int 0, .ref a7, .ref a8, .ref a9, .ref a10, .ref a11, .int 0]))] sz) (fun u => [])) (va_A [(h0, .inr (5, [.ref s0, .ref de, .ref kl, .ref tl, .ref cu, .ref hk, .ref ca, .int 0, .int 0, .int (-1), .int 0, .int 0])), (kl, .inr (2, [.ref kx, .ref ky, .int 0])), (tl, .inr (4, [.ref tx, .ref ty, .int 1])), (s0, .inr (3, [.ref a0, .ref a1, .ref a2, .ref a3, .ref a4, .ref a5, .ref a6, .int 0, .ref a7, .ref a8, .ref a9, .ref a10, .ref a11, .int 0]))] sz)) (xX xIAE (True) (va_A [(h0, .inr (5, [.ref s0, .ref de, .ref kl, .ref tl, .ref cu, .ref hk, .ref ca, .int 0, .int 0, .int (-1), .int 0, .int 0])), (kl, .inr (2, [.ref kx, .ref ky, .int 0])), (tl, .inr (4, [.ref tx, .ref ty, .int 1])), (s0, .inr (3, [.ref a0, .ref a1, .ref a2, .ref a3, .ref a4, .ref a5, .ref a6, .int 0, .ref a7, .ref a8, .ref a9, .ref a10, .ref a11, .int 0]))] sz)) 3 18 (va_A [(h0, .inr (5, [.ref s0, .ref de, .ref kl, .ref tl, .ref cu, .ref hk, .ref ca, .int 0, .int 0, .int (-1), .int 0, .int 0])), (kl, .inr (2, [.ref kx, .ref ky, .int 0])), (tl, .inr (4, [.ref tx, .ref ty, .int 1])), (s0, .inr (3, [.ref a0, .ref a1, .ref a2, .ref a3, .ref a4, .ref a5, .ref a6, .int 0, .ref a7, .ref a8, .ref a9, .ref a10, .ref a11, .int 0]))] sz) := by
  refine vx_ofW (cc := cX5_has) (maxL := 4) (ret := (some .boolean)) (by decide) rfl ?_
  intro p e s m args below meth c s₁ B hml htab hv
  obtain ⟨rfl, hsz, hP, hK, hD0, hE⟩ := hv
  have hx := B.exec
  have hb := B.bytes
  have hr := B.returns
  have ht : ∀ w ∈ xb, w.before _ s = true := fun w h => atoms_spec (ws := xw yX5_has cX5_has 4 (some .boolean)) B.pre w (List.mem_cons_of_mem _ h)
  have hown : s.vm.findClass RX5 = some m.cls := findClass_of_methodNamed B.named
  have hlocks := B.notSynchronized
  subst hsz
  have hAb := x_Ab hD0 hE.1
  have hD := hD0.self (sz := s.heap.size)
  generalize hAe : va_A [(h0, .inr (5, [.ref s0, .ref de, .ref kl, .ref tl, .ref cu, .ref hk, .ref ca, .int 0, .int 0, .int (-1), .int 0, .int 0])), (kl, .inr (2, [.ref kx, .ref ky, .int 0])), (tl, .inr (4, [.ref tx, .ref ty, .int 1])), (s0, .inr (3, [.ref a0, .ref a1, .ref a2, .ref a3, .ref a4, .ref a5, .ref a6, .int 0, .ref a7, .ref a8, .ref a9, .ref a10, .ref a11, .int 0]))] s.heap.size = A at hD hAb ⊢
  have hA : ∀ q : Nat, s.heap.size ≤ q → A q := fun q h => by rw [← hAe]; exact Or.inr h
  have hS : va_S A s.heap s.heap [] := va_S.rf
  have hP : va_P D vwCl [(h0, .inr (5, [.ref s0, .ref de, .ref kl, .ref tl, .ref cu, .ref hk, .ref ca, .int 0, .int 0, .int (-1), .int 0, .int 0])), (kl, .inr (2, [.ref kx, .ref ky, .int 0])), (tl, .inr (4, [.ref tx, .ref ty, .int 1])), (s0, .inr (3, [.ref a0, .ref a1, .ref a2, .ref a3, .ref a4, .ref a5, .ref a6, .int 0, .ref a7, .ref a8, .ref a9, .ref a10, .ref a11, .int 0]))] s.heap := hP
  have hl := lv_entry ([.ref h0, .int p0, .int p1, .int p2]) (n := 4) (Nat.le_of_ble_eq_true rfl)
  rw [lg_entry_eq]
  generalize (lg_sl ([.ref h0, .int p0, .int p1, .int p2]) ++ List.replicate (4 - (lg_sl ([.ref h0, .int p0, .int p1, .int p2])).length) Slot.unset).toArray = ls at hl ⊢
  have hl : lv_has ls 4 [(0, .ref h0), (1, .int p0), (2, .int p1), (3, .int p2)] := hl
  refine lv_aload_n hx hb dX5_has_0 rfl (lv_at hl 0 rfl) ?_
  have hPc := hP.sub (ws' := [(h0, .inr (5, [.ref s0, .ref de, .ref kl, .ref tl, .ref cu, .ref hk, .ref ca, .int 0, .int 0, .int (-1), .int 0, .int 0])), (kl, .inr (2, [.ref kx, .ref ky, .int 0])), (tl, .inr (4, [.ref tx, .ref ty, .int 1]))]) [0, 1, 2] rfl
  have hDc := hD.sub (ws' := [(h0, .inr (5, [.ref s0, .ref de, .ref kl, .ref tl, .ref cu, .ref hk, .ref ca, .int 0, .int 0, .int (-1), .int 0, .int 0])), (kl, .inr (2, [.ref kx, .ref ky, .int 0])), (tl, .inr (4, [.ref tx, .ref ty, .int 1]))]) [0, 1, 2] (by decide) rfl
  have hFc := va_free (wc := [(h0, .inr (5, [.ref s0, .ref de, .ref kl, .ref tl, .ref cu, .ref hk, .ref ca, .int 0, .int 0, .int (-1), .int 0, .int 0])), (kl, .inr (2, [.ref kx, .ref ky, .int 0])), (tl, .inr (4, [.ref tx, .ref ty, .int 1]))]) hD hS hA [0, 1, 2] rfl
  refine va_callv (va_runV (As := []) (rest := []) ⟨hx, hb, hml, hown, ht⟩ (k5_begin l D C b0 s.heap.size h0 s0 de kl tl cu hk ca kx ky tx ty) (cwV 0 ht (xg_V m_322 m_323 m_324 m_281 m_162) rfl rfl rfl (by decide +kernel) ⟨Nat.le_of_ble_eq_true rfl, Nat.le_of_ble_eq_true rfl⟩) ⟨xPc_bl, va_recv hK hPc (ci := 5) (q0 := 0) rfl rfl, xPc_at hPc hK hDc hE hS hAb⟩ rfl rfl hl.1 rfl (lv_room (Nat.le_of_ble_eq_true rfl)) dX5_has_1 ⟨(by decide), (by decide)⟩) hS (fun q _ h => hFc q h) hFc (fun u_1 t H1 locs ht1 hvm hw hB hz1 hk1 hS => ?_)
  obtain ⟨hP1, hD1⟩ := hB
  rw [ht1] at hP1
  try dsimp only at hw
  obtain ⟨hP, hD⟩ := va_join (wr := [(s0, .inr (3, [.ref a0, .ref a1, .ref a2, .ref a3, .ref a4, .ref a5, .ref a6, .int 0, .ref a7, .ref a8, .ref a9, .ref a10, .ref a11, .int 0]))]) (w1 := [(h0, .inr (5, [.ref s0, .ref de, .ref kl, .ref tl, .ref cu, .ref hk, .ref ca, .int 0, .int 0, .int (-1), .int 0, .int 0])), (kl, .inr (2, [.ref kx, .ref ky, .int 0])), (tl, .inr (4, [.ref tx, .ref ty, .int 2]))]) hP hD [0, 1, 2] [3] rfl rfl (by decide) (by decide) hk1 hFc hP1 hD1
  generalize H1 = H at hP hS ⊢
  have hP : va_P D vwCl [(s0, .inr (3, [.ref a0, .ref a1, .ref a2, .ref a3, .ref a4, .ref a5, .ref a6, .int 0, .ref a7, .ref a8, .ref a9, .ref a10, .ref a11, .int 0])), (h0, .inr (5, [.ref s0, .ref de, .ref kl, .ref tl, .ref cu, .ref hk, .ref ca, .int 0, .int 0, .int (-1), .int 0, .int 0])), (kl, .inr (2, [.ref kx, .ref ky, .int 0])), (tl, .inr (4, [.ref tx, .ref ty, .int 2]))] H := hP
  have hD : va_D A [(s0, .inr (3, [.ref a0, .ref a1, .ref a2, .ref a3, .ref a4, .ref a5, .ref a6, .int 0, .ref a7, .ref a8, .ref a9, .ref a10, .ref a11, .int 0])), (h0, .inr (5, [.ref s0, .ref de, .ref kl, .ref tl, .ref cu, .ref hk, .ref ca, .int 0, .int 0, .int (-1), .int 0, .int 0])), (kl, .inr (2, [.ref kx, .ref ky, .int 0])), (tl, .inr (4, [.ref tx, .ref ty, .int 2]))] := hD
  have hq_1 := hw
  refine lv_aload_n hx hb dX5_has_4 rfl (lv_at hl 0 rfl) ?_
  refine lv_iload_n hx hb dX5_has_5 rfl (lv_at hl 1 rfl) ?_
  have hPc := hP.sub (ws' := [(h0, .inr (5, [.ref s0, .ref de, .ref kl, .ref tl, .ref cu, .ref hk, .ref ca, .int 0, .int 0, .int (-1), .int 0, .int 0])), (s0, .inr (3, [.ref a0, .ref a1, .ref a2, .ref a3, .ref a4, .ref a5, .ref a6, .int 0, .ref a7, .ref a8, .ref a9, .ref a10, .ref a11, .int 0]))]) [1, 0] rfl
  have hDc := hD.sub (ws' := [(h0, .inr (5, [.ref s0, .ref de, .ref kl, .ref tl, .ref cu, .ref hk, .ref ca, .int 0, .int 0, .int (-1), .int 0, .int 0])), (s0, .inr (3, [.ref a0, .ref a1, .ref a2, .ref a3, .ref a4, .ref a5, .ref a6, .int 0, .ref a7, .ref a8, .ref a9, .ref a10, .ref a11, .int 0]))]) [1, 0] (by decide) rfl
  have hFc := va_free (wc := [(h0, .inr (5, [.ref s0, .ref de, .ref kl, .ref tl, .ref cu, .ref hk, .ref ca, .int 0, .int 0, .int (-1), .int 0, .int 0])), (s0, .inr (3, [.ref a0, .ref a1, .ref a2, .ref a3, .ref a4, .ref a5, .ref a6, .int 0, .ref a7, .ref a8, .ref a9, .ref a10, .ref a11, .int 0]))]) hD hS hA [1, 0] rfl
  refine vx_callv (vx_runV (As := [.int p0]) (rest := []) ⟨hx, hb, hml, hown, ht⟩ (k5_requireObject l hl0 D C b0 H.size h0 s0 de kl tl cu hk ca a0 a1 a2 a3 a4 a5 a6 a7 a8 a9 a10 a11 p0) (cwV 1 ht (xg_V m_278 m_279 m_280 m_281 m_163) rfl rfl rfl (by decide +kernel) ⟨Nat.le_of_ble_eq_true rfl, Nat.le_of_ble_eq_true rfl⟩) ⟨xPc_bl, va_recv hK hPc (ci := 5) (q0 := 0) rfl rfl, xPc_at hPc hK hDc hE hS hAb⟩ rfl rfl hl.1 rfl (lv_room (Nat.le_of_ble_eq_true rfl)) dX5_has_6 ⟨(by decide), (by decide)⟩) hS (fun q _ h => hFc q h) hFc (fun q _ h => hFc q h) (fun E ce q9 u9 t9 H9 locs9 e9 v9 p9 b9 z9 k9 hS9 hc9 hn9 hf9 => ?_) (fun u_2 t H1 locs ht1 hvm hw hB hz1 hk1 hS => ?_)
  · skip
    obtain rfl := b9
    exact vx_out (mc := 3) (ms := 18) (fun x hx => (htab x hx).elim) hlocks hc9 hn9 hf9 (fun t ht1 hW1 => ⟨(), by first | exact p9 | trivial | assumption | (simp_all; done), rfl, hS9.F ht1⟩) hS9.2.2 (by decide) (by decide)
  · exact hw.elim
set_option maxHeartbeats 4000000 in
set_option maxRecDepth 100000 in
theorem k5_remove (l : Launch) (hl0 : l.stackTraces = false) (D : va_G) (C : Nat → ClassId) (b0 sz : Nat) (h0 : Nat) (s0 : Nat) (de : Nat) (kl : Nat) (tl : Nat) (cu : Nat) (hk : Nat) (ca : Nat) (kx : Nat) (ky : Nat) (tx : Nat) (ty : Nat) (a0 : Nat) (a1 : Nat) (a2 : Nat) (a3 : Nat) (a4 : Nat) (a5 : Nat) (a6 : Nat) (a7 : Nat) (a8 : Nat) (a9 : Nat) (a10 : Nat) (a11 : Nat) (p0 : Int32) (p1 : Int32) : vx_Met l yX5_remove (xw yX5_remove cX5_remove 3 (some .boolean)) ({ frames := 48, cells := 3, slots := 18, locals := 900 }) (xPc D C b0 [.ref h0, .int p0, .int p1] [(h0, .inr (5, [.ref s0, .ref de, .ref kl, .ref tl, .ref cu, .ref hk, .ref ca, .int 0, .int 0, .int (-1), .int 0, .int 0])), (kl, .inr (2, [.ref kx, .ref ky, .int 0])), (tl, .inr (4, [.ref tx, .ref ty, .int 1])), (s0, .inr (3, [.ref a0, .ref a1, .ref a2, .ref a3, .ref a4, .ref a5, .ref a6, .int 0, .ref a7, .ref a8, .ref a9, .ref a10, .ref a11, .int 0]))] sz) (va_Qi (fun (r : Int32) (u : xS) => False) (xBw D (va_A [(h0, .inr (5, [.ref s0, .ref de, .ref kl, .ref tl, .ref cu, .ref hk, .ref ca, .int 0, .int 0, .int (-1), .int 0, .int 0])), (kl, .inr (2, [.ref kx, .ref ky, .int 0])), (tl, .inr (4, [.ref tx, .ref ty, .int 1])), (s0, .inr (3, [.ref a0, .ref a1, .ref a2, .ref a3, .ref a4, .ref a5, .ref a6, .int 0, .ref a7, .ref a8, .ref a9, .ref a10, .ref a11, .int 0]))] sz) (fun u => [])) (va_A [(h0, .inr (5, [.ref s0, .ref de, .ref kl, .ref tl, .ref cu, .ref hk, .ref ca, .int 0, .int 0, .int (-1), .int 0, .int 0])), (kl, .inr (2, [.ref kx, .ref ky, .int 0])), (tl, .inr (4, [.ref tx, .ref ty, .int 1])), (s0, .inr (3, [.ref a0, .ref a1, .ref a2, .ref a3, .ref a4, .ref a5, .ref a6, .int 0, .ref a7, .ref a8, .ref a9, .ref a10, .ref a11, .int 0]))] sz)) (xX xIAE (True) (va_A [(h0, .inr (5, [.ref s0, .ref de, .ref kl, .ref tl, .ref cu, .ref hk, .ref ca, .int 0, .int 0, .int (-1), .int 0, .int 0])), (kl, .inr (2, [.ref kx, .ref ky, .int 0])), (tl, .inr (4, [.ref tx, .ref ty, .int 1])), (s0, .inr (3, [.ref a0, .ref a1, .ref a2, .ref a3, .ref a4, .ref a5, .ref a6, .int 0, .ref a7, .ref a8, .ref a9, .ref a10, .ref a11, .int 0]))] sz)) 3 18 (va_A [(h0, .inr (5, [.ref s0, .ref de, .ref kl, .ref tl, .ref cu, .ref hk, .ref ca, .int 0, .int 0, .int (-1), .int 0, .int 0])), (kl, .inr (2, [.ref kx, .ref ky, .int 0])), (tl, .inr (4, [.ref tx, .ref ty, .int 1])), (s0, .inr (3, [.ref a0, .ref a1, .ref a2, .ref a3, .ref a4, .ref a5, .ref a6, .int 0, .ref a7, .ref a8, .ref a9, .ref a10, .ref a11, .int 0]))] sz) := by
  refine vx_ofW (cc := cX5_remove) (maxL := 3) (ret := (some .boolean)) (by decide) rfl ?_
  intro p e s m args below meth c s₁ B hml htab hv
  obtain ⟨rfl, hsz, hP, hK, hD0, hE⟩ := hv
  have hx := B.exec
  have hb := B.bytes
  have hr := B.returns
  have ht : ∀ w ∈ xb, w.before _ s = true := fun w h => atoms_spec (ws := xw yX5_remove cX5_remove 3 (some .boolean)) B.pre w (List.mem_cons_of_mem _ h)
  have hown : s.vm.findClass RX5 = some m.cls := findClass_of_methodNamed B.named
  have hlocks := B.notSynchronized
  subst hsz
  have hAb := x_Ab hD0 hE.1
  have hD := hD0.self (sz := s.heap.size)
  generalize hAe : va_A [(h0, .inr (5, [.ref s0, .ref de, .ref kl, .ref tl, .ref cu, .ref hk, .ref ca, .int 0, .int 0, .int (-1), .int 0, .int 0])), (kl, .inr (2, [.ref kx, .ref ky, .int 0])), (tl, .inr (4, [.ref tx, .ref ty, .int 1])), (s0, .inr (3, [.ref a0, .ref a1, .ref a2, .ref a3, .ref a4, .ref a5, .ref a6, .int 0, .ref a7, .ref a8, .ref a9, .ref a10, .ref a11, .int 0]))] s.heap.size = A at hD hAb ⊢
  have hA : ∀ q : Nat, s.heap.size ≤ q → A q := fun q h => by rw [← hAe]; exact Or.inr h
  have hS : va_S A s.heap s.heap [] := va_S.rf
  have hP : va_P D vwCl [(h0, .inr (5, [.ref s0, .ref de, .ref kl, .ref tl, .ref cu, .ref hk, .ref ca, .int 0, .int 0, .int (-1), .int 0, .int 0])), (kl, .inr (2, [.ref kx, .ref ky, .int 0])), (tl, .inr (4, [.ref tx, .ref ty, .int 1])), (s0, .inr (3, [.ref a0, .ref a1, .ref a2, .ref a3, .ref a4, .ref a5, .ref a6, .int 0, .ref a7, .ref a8, .ref a9, .ref a10, .ref a11, .int 0]))] s.heap := hP
  have hl := lv_entry ([.ref h0, .int p0, .int p1]) (n := 3) (Nat.le_of_ble_eq_true rfl)
  rw [lg_entry_eq]
  generalize (lg_sl ([.ref h0, .int p0, .int p1]) ++ List.replicate (3 - (lg_sl ([.ref h0, .int p0, .int p1])).length) Slot.unset).toArray = ls at hl ⊢
  have hl : lv_has ls 3 [(0, .ref h0), (1, .int p0), (2, .int p1)] := hl
  refine lv_aload_n hx hb dX5_remove_0 rfl (lv_at hl 0 rfl) ?_
  have hPc := hP.sub (ws' := [(h0, .inr (5, [.ref s0, .ref de, .ref kl, .ref tl, .ref cu, .ref hk, .ref ca, .int 0, .int 0, .int (-1), .int 0, .int 0])), (kl, .inr (2, [.ref kx, .ref ky, .int 0])), (tl, .inr (4, [.ref tx, .ref ty, .int 1]))]) [0, 1, 2] rfl
  have hDc := hD.sub (ws' := [(h0, .inr (5, [.ref s0, .ref de, .ref kl, .ref tl, .ref cu, .ref hk, .ref ca, .int 0, .int 0, .int (-1), .int 0, .int 0])), (kl, .inr (2, [.ref kx, .ref ky, .int 0])), (tl, .inr (4, [.ref tx, .ref ty, .int 1]))]) [0, 1, 2] (by decide) rfl
  have hFc := va_free (wc := [(h0, .inr (5, [.ref s0, .ref de, .ref kl, .ref tl, .ref cu, .ref hk, .ref ca, .int 0, .int 0, .int (-1), .int 0, .int 0])), (kl, .inr (2, [.ref kx, .ref ky, .int 0])), (tl, .inr (4, [.ref tx, .ref ty, .int 1]))]) hD hS hA [0, 1, 2] rfl
  refine va_callv (va_runV (As := []) (rest := []) ⟨hx, hb, hml, hown, ht⟩ (k5_begin l D C b0 s.heap.size h0 s0 de kl tl cu hk ca kx ky tx ty) (cwV 0 ht (xg_V m_322 m_323 m_324 m_281 m_162) rfl rfl rfl (by decide +kernel) ⟨Nat.le_of_ble_eq_true rfl, Nat.le_of_ble_eq_true rfl⟩) ⟨xPc_bl, va_recv hK hPc (ci := 5) (q0 := 0) rfl rfl, xPc_at hPc hK hDc hE hS hAb⟩ rfl rfl hl.1 rfl (lv_room (Nat.le_of_ble_eq_true rfl)) dX5_remove_1 ⟨(by decide), (by decide)⟩) hS (fun q _ h => hFc q h) hFc (fun u_1 t H1 locs ht1 hvm hw hB hz1 hk1 hS => ?_)
  obtain ⟨hP1, hD1⟩ := hB
  rw [ht1] at hP1
  try dsimp only at hw
  obtain ⟨hP, hD⟩ := va_join (wr := [(s0, .inr (3, [.ref a0, .ref a1, .ref a2, .ref a3, .ref a4, .ref a5, .ref a6, .int 0, .ref a7, .ref a8, .ref a9, .ref a10, .ref a11, .int 0]))]) (w1 := [(h0, .inr (5, [.ref s0, .ref de, .ref kl, .ref tl, .ref cu, .ref hk, .ref ca, .int 0, .int 0, .int (-1), .int 0, .int 0])), (kl, .inr (2, [.ref kx, .ref ky, .int 0])), (tl, .inr (4, [.ref tx, .ref ty, .int 2]))]) hP hD [0, 1, 2] [3] rfl rfl (by decide) (by decide) hk1 hFc hP1 hD1
  generalize H1 = H at hP hS ⊢
  have hP : va_P D vwCl [(s0, .inr (3, [.ref a0, .ref a1, .ref a2, .ref a3, .ref a4, .ref a5, .ref a6, .int 0, .ref a7, .ref a8, .ref a9, .ref a10, .ref a11, .int 0])), (h0, .inr (5, [.ref s0, .ref de, .ref kl, .ref tl, .ref cu, .ref hk, .ref ca, .int 0, .int 0, .int (-1), .int 0, .int 0])), (kl, .inr (2, [.ref kx, .ref ky, .int 0])), (tl, .inr (4, [.ref tx, .ref ty, .int 2]))] H := hP
  have hD : va_D A [(s0, .inr (3, [.ref a0, .ref a1, .ref a2, .ref a3, .ref a4, .ref a5, .ref a6, .int 0, .ref a7, .ref a8, .ref a9, .ref a10, .ref a11, .int 0])), (h0, .inr (5, [.ref s0, .ref de, .ref kl, .ref tl, .ref cu, .ref hk, .ref ca, .int 0, .int 0, .int (-1), .int 0, .int 0])), (kl, .inr (2, [.ref kx, .ref ky, .int 0])), (tl, .inr (4, [.ref tx, .ref ty, .int 2]))] := hD
  have hq_1 := hw
  refine lv_aload_n hx hb dX5_remove_4 rfl (lv_at hl 0 rfl) ?_
  refine lv_iload_n hx hb dX5_remove_5 rfl (lv_at hl 1 rfl) ?_
  have hPc := hP.sub (ws' := [(h0, .inr (5, [.ref s0, .ref de, .ref kl, .ref tl, .ref cu, .ref hk, .ref ca, .int 0, .int 0, .int (-1), .int 0, .int 0])), (s0, .inr (3, [.ref a0, .ref a1, .ref a2, .ref a3, .ref a4, .ref a5, .ref a6, .int 0, .ref a7, .ref a8, .ref a9, .ref a10, .ref a11, .int 0]))]) [1, 0] rfl
  have hDc := hD.sub (ws' := [(h0, .inr (5, [.ref s0, .ref de, .ref kl, .ref tl, .ref cu, .ref hk, .ref ca, .int 0, .int 0, .int (-1), .int 0, .int 0])), (s0, .inr (3, [.ref a0, .ref a1, .ref a2, .ref a3, .ref a4, .ref a5, .ref a6, .int 0, .ref a7, .ref a8, .ref a9, .ref a10, .ref a11, .int 0]))]) [1, 0] (by decide) rfl
  have hFc := va_free (wc := [(h0, .inr (5, [.ref s0, .ref de, .ref kl, .ref tl, .ref cu, .ref hk, .ref ca, .int 0, .int 0, .int (-1), .int 0, .int 0])), (s0, .inr (3, [.ref a0, .ref a1, .ref a2, .ref a3, .ref a4, .ref a5, .ref a6, .int 0, .ref a7, .ref a8, .ref a9, .ref a10, .ref a11, .int 0]))]) hD hS hA [1, 0] rfl
  refine vx_callv (vx_runV (As := [.int p0]) (rest := []) ⟨hx, hb, hml, hown, ht⟩ (k5_requireObject l hl0 D C b0 H.size h0 s0 de kl tl cu hk ca a0 a1 a2 a3 a4 a5 a6 a7 a8 a9 a10 a11 p0) (cwV 1 ht (xg_V m_278 m_279 m_280 m_281 m_163) rfl rfl rfl (by decide +kernel) ⟨Nat.le_of_ble_eq_true rfl, Nat.le_of_ble_eq_true rfl⟩) ⟨xPc_bl, va_recv hK hPc (ci := 5) (q0 := 0) rfl rfl, xPc_at hPc hK hDc hE hS hAb⟩ rfl rfl hl.1 rfl (lv_room (Nat.le_of_ble_eq_true rfl)) dX5_remove_6 ⟨(by decide), (by decide)⟩) hS (fun q _ h => hFc q h) hFc (fun q _ h => hFc q h) (fun E ce q9 u9 t9 H9 locs9 e9 v9 p9 b9 z9 k9 hS9 hc9 hn9 hf9 => ?_) (fun u_2 t H1 locs ht1 hvm hw hB hz1 hk1 hS => ?_)
  · skip
    obtain rfl := b9
    exact vx_out (mc := 3) (ms := 18) (fun x hx => (htab x hx).elim) hlocks hc9 hn9 hf9 (fun t ht1 hW1 => ⟨(), by first | exact p9 | trivial | assumption | (simp_all; done), rfl, hS9.F ht1⟩) hS9.2.2 (by decide) (by decide)
  · exact hw.elim
set_option maxHeartbeats 4000000 in
set_option maxRecDepth 100000 in
theorem k5_define (l : Launch) (hl0 : l.stackTraces = false) (D : va_G) (C : Nat → ClassId) (b0 sz : Nat) (h0 : Nat) (s0 : Nat) (de : Nat) (kl : Nat) (tl : Nat) (cu : Nat) (hk : Nat) (ca : Nat) (kx : Nat) (ky : Nat) (tx : Nat) (ty : Nat) (a0 : Nat) (a1 : Nat) (a2 : Nat) (a3 : Nat) (a4 : Nat) (a5 : Nat) (a6 : Nat) (a7 : Nat) (a8 : Nat) (a9 : Nat) (a10 : Nat) (a11 : Nat) (p0 : Int32) (p1 : Int32) (p2 : Int32) (p3 : Int32) (p4 : Int32) : vx_Met l yX5_define (xw yX5_define cX5_define 7 (some .boolean)) ({ frames := 48, cells := 3, slots := 18, locals := 900 }) (xPc D C b0 [.ref h0, .int p0, .int p1, .int p2, .int p3, .int p4] [(h0, .inr (5, [.ref s0, .ref de, .ref kl, .ref tl, .ref cu, .ref hk, .ref ca, .int 0, .int 0, .int (-1), .int 0, .int 0])), (kl, .inr (2, [.ref kx, .ref ky, .int 0])), (tl, .inr (4, [.ref tx, .ref ty, .int 1])), (s0, .inr (3, [.ref a0, .ref a1, .ref a2, .ref a3, .ref a4, .ref a5, .ref a6, .int 0, .ref a7, .ref a8, .ref a9, .ref a10, .ref a11, .int 0]))] sz) (va_Qi (fun (r : Int32) (u : xS) => False) (xBw D (va_A [(h0, .inr (5, [.ref s0, .ref de, .ref kl, .ref tl, .ref cu, .ref hk, .ref ca, .int 0, .int 0, .int (-1), .int 0, .int 0])), (kl, .inr (2, [.ref kx, .ref ky, .int 0])), (tl, .inr (4, [.ref tx, .ref ty, .int 1])), (s0, .inr (3, [.ref a0, .ref a1, .ref a2, .ref a3, .ref a4, .ref a5, .ref a6, .int 0, .ref a7, .ref a8, .ref a9, .ref a10, .ref a11, .int 0]))] sz) (fun u => [])) (va_A [(h0, .inr (5, [.ref s0, .ref de, .ref kl, .ref tl, .ref cu, .ref hk, .ref ca, .int 0, .int 0, .int (-1), .int 0, .int 0])), (kl, .inr (2, [.ref kx, .ref ky, .int 0])), (tl, .inr (4, [.ref tx, .ref ty, .int 1])), (s0, .inr (3, [.ref a0, .ref a1, .ref a2, .ref a3, .ref a4, .ref a5, .ref a6, .int 0, .ref a7, .ref a8, .ref a9, .ref a10, .ref a11, .int 0]))] sz)) (xX xIAE (True) (va_A [(h0, .inr (5, [.ref s0, .ref de, .ref kl, .ref tl, .ref cu, .ref hk, .ref ca, .int 0, .int 0, .int (-1), .int 0, .int 0])), (kl, .inr (2, [.ref kx, .ref ky, .int 0])), (tl, .inr (4, [.ref tx, .ref ty, .int 1])), (s0, .inr (3, [.ref a0, .ref a1, .ref a2, .ref a3, .ref a4, .ref a5, .ref a6, .int 0, .ref a7, .ref a8, .ref a9, .ref a10, .ref a11, .int 0]))] sz)) 3 18 (va_A [(h0, .inr (5, [.ref s0, .ref de, .ref kl, .ref tl, .ref cu, .ref hk, .ref ca, .int 0, .int 0, .int (-1), .int 0, .int 0])), (kl, .inr (2, [.ref kx, .ref ky, .int 0])), (tl, .inr (4, [.ref tx, .ref ty, .int 1])), (s0, .inr (3, [.ref a0, .ref a1, .ref a2, .ref a3, .ref a4, .ref a5, .ref a6, .int 0, .ref a7, .ref a8, .ref a9, .ref a10, .ref a11, .int 0]))] sz) := by
  refine vx_ofW (cc := cX5_define) (maxL := 7) (ret := (some .boolean)) (by decide) rfl ?_
  intro p e s m args below meth c s₁ B hml htab hv
  obtain ⟨rfl, hsz, hP, hK, hD0, hE⟩ := hv
  have hx := B.exec
  have hb := B.bytes
  have hr := B.returns
  have ht : ∀ w ∈ xb, w.before _ s = true := fun w h => atoms_spec (ws := xw yX5_define cX5_define 7 (some .boolean)) B.pre w (List.mem_cons_of_mem _ h)
  have hown : s.vm.findClass RX5 = some m.cls := findClass_of_methodNamed B.named
  have hlocks := B.notSynchronized
  subst hsz
  have hAb := x_Ab hD0 hE.1
  have hD := hD0.self (sz := s.heap.size)
  generalize hAe : va_A [(h0, .inr (5, [.ref s0, .ref de, .ref kl, .ref tl, .ref cu, .ref hk, .ref ca, .int 0, .int 0, .int (-1), .int 0, .int 0])), (kl, .inr (2, [.ref kx, .ref ky, .int 0])), (tl, .inr (4, [.ref tx, .ref ty, .int 1])), (s0, .inr (3, [.ref a0, .ref a1, .ref a2, .ref a3, .ref a4, .ref a5, .ref a6, .int 0, .ref a7, .ref a8, .ref a9, .ref a10, .ref a11, .int 0]))] s.heap.size = A at hD hAb ⊢
  have hA : ∀ q : Nat, s.heap.size ≤ q → A q := fun q h => by rw [← hAe]; exact Or.inr h
  have hS : va_S A s.heap s.heap [] := va_S.rf
  have hP : va_P D vwCl [(h0, .inr (5, [.ref s0, .ref de, .ref kl, .ref tl, .ref cu, .ref hk, .ref ca, .int 0, .int 0, .int (-1), .int 0, .int 0])), (kl, .inr (2, [.ref kx, .ref ky, .int 0])), (tl, .inr (4, [.ref tx, .ref ty, .int 1])), (s0, .inr (3, [.ref a0, .ref a1, .ref a2, .ref a3, .ref a4, .ref a5, .ref a6, .int 0, .ref a7, .ref a8, .ref a9, .ref a10, .ref a11, .int 0]))] s.heap := hP
  have hl := lv_entry ([.ref h0, .int p0, .int p1, .int p2, .int p3, .int p4]) (n := 7) (Nat.le_of_ble_eq_true rfl)
  rw [lg_entry_eq]
  generalize (lg_sl ([.ref h0, .int p0, .int p1, .int p2, .int p3, .int p4]) ++ List.replicate (7 - (lg_sl ([.ref h0, .int p0, .int p1, .int p2, .int p3, .int p4])).length) Slot.unset).toArray = ls at hl ⊢
  have hl : lv_has ls 7 [(0, .ref h0), (1, .int p0), (2, .int p1), (3, .int p2), (4, .int p3), (5, .int p4)] := hl
  refine lv_aload_n hx hb dX5_define_0 rfl (lv_at hl 0 rfl) ?_
  have hPc := hP.sub (ws' := [(h0, .inr (5, [.ref s0, .ref de, .ref kl, .ref tl, .ref cu, .ref hk, .ref ca, .int 0, .int 0, .int (-1), .int 0, .int 0])), (kl, .inr (2, [.ref kx, .ref ky, .int 0])), (tl, .inr (4, [.ref tx, .ref ty, .int 1]))]) [0, 1, 2] rfl
  have hDc := hD.sub (ws' := [(h0, .inr (5, [.ref s0, .ref de, .ref kl, .ref tl, .ref cu, .ref hk, .ref ca, .int 0, .int 0, .int (-1), .int 0, .int 0])), (kl, .inr (2, [.ref kx, .ref ky, .int 0])), (tl, .inr (4, [.ref tx, .ref ty, .int 1]))]) [0, 1, 2] (by decide) rfl
  have hFc := va_free (wc := [(h0, .inr (5, [.ref s0, .ref de, .ref kl, .ref tl, .ref cu, .ref hk, .ref ca, .int 0, .int 0, .int (-1), .int 0, .int 0])), (kl, .inr (2, [.ref kx, .ref ky, .int 0])), (tl, .inr (4, [.ref tx, .ref ty, .int 1]))]) hD hS hA [0, 1, 2] rfl
  refine va_callv (va_runV (As := []) (rest := []) ⟨hx, hb, hml, hown, ht⟩ (k5_begin l D C b0 s.heap.size h0 s0 de kl tl cu hk ca kx ky tx ty) (cwV 0 ht (xg_V m_322 m_323 m_324 m_281 m_162) rfl rfl rfl (by decide +kernel) ⟨Nat.le_of_ble_eq_true rfl, Nat.le_of_ble_eq_true rfl⟩) ⟨xPc_bl, va_recv hK hPc (ci := 5) (q0 := 0) rfl rfl, xPc_at hPc hK hDc hE hS hAb⟩ rfl rfl hl.1 rfl (lv_room (Nat.le_of_ble_eq_true rfl)) dX5_define_1 ⟨(by decide), (by decide)⟩) hS (fun q _ h => hFc q h) hFc (fun u_1 t H1 locs ht1 hvm hw hB hz1 hk1 hS => ?_)
  obtain ⟨hP1, hD1⟩ := hB
  rw [ht1] at hP1
  try dsimp only at hw
  obtain ⟨hP, hD⟩ := va_join (wr := [(s0, .inr (3, [.ref a0, .ref a1, .ref a2, .ref a3, .ref a4, .ref a5, .ref a6, .int 0, .ref a7, .ref a8, .ref a9, .ref a10, .ref a11, .int 0]))]) (w1 := [(h0, .inr (5, [.ref s0, .ref de, .ref kl, .ref tl, .ref cu, .ref hk, .ref ca, .int 0, .int 0, .int (-1), .int 0, .int 0])), (kl, .inr (2, [.ref kx, .ref ky, .int 0])), (tl, .inr (4, [.ref tx, .ref ty, .int 2]))]) hP hD [0, 1, 2] [3] rfl rfl (by decide) (by decide) hk1 hFc hP1 hD1
  generalize H1 = H at hP hS ⊢
  have hP : va_P D vwCl [(s0, .inr (3, [.ref a0, .ref a1, .ref a2, .ref a3, .ref a4, .ref a5, .ref a6, .int 0, .ref a7, .ref a8, .ref a9, .ref a10, .ref a11, .int 0])), (h0, .inr (5, [.ref s0, .ref de, .ref kl, .ref tl, .ref cu, .ref hk, .ref ca, .int 0, .int 0, .int (-1), .int 0, .int 0])), (kl, .inr (2, [.ref kx, .ref ky, .int 0])), (tl, .inr (4, [.ref tx, .ref ty, .int 2]))] H := hP
  have hD : va_D A [(s0, .inr (3, [.ref a0, .ref a1, .ref a2, .ref a3, .ref a4, .ref a5, .ref a6, .int 0, .ref a7, .ref a8, .ref a9, .ref a10, .ref a11, .int 0])), (h0, .inr (5, [.ref s0, .ref de, .ref kl, .ref tl, .ref cu, .ref hk, .ref ca, .int 0, .int 0, .int (-1), .int 0, .int 0])), (kl, .inr (2, [.ref kx, .ref ky, .int 0])), (tl, .inr (4, [.ref tx, .ref ty, .int 2]))] := hD
  have hq_1 := hw
  refine lv_aload_n hx hb dX5_define_4 rfl (lv_at hl 0 rfl) ?_
  refine lv_iload_n hx hb dX5_define_5 rfl (lv_at hl 1 rfl) ?_
  have hPc := hP.sub (ws' := [(h0, .inr (5, [.ref s0, .ref de, .ref kl, .ref tl, .ref cu, .ref hk, .ref ca, .int 0, .int 0, .int (-1), .int 0, .int 0])), (s0, .inr (3, [.ref a0, .ref a1, .ref a2, .ref a3, .ref a4, .ref a5, .ref a6, .int 0, .ref a7, .ref a8, .ref a9, .ref a10, .ref a11, .int 0]))]) [1, 0] rfl
  have hDc := hD.sub (ws' := [(h0, .inr (5, [.ref s0, .ref de, .ref kl, .ref tl, .ref cu, .ref hk, .ref ca, .int 0, .int 0, .int (-1), .int 0, .int 0])), (s0, .inr (3, [.ref a0, .ref a1, .ref a2, .ref a3, .ref a4, .ref a5, .ref a6, .int 0, .ref a7, .ref a8, .ref a9, .ref a10, .ref a11, .int 0]))]) [1, 0] (by decide) rfl
  have hFc := va_free (wc := [(h0, .inr (5, [.ref s0, .ref de, .ref kl, .ref tl, .ref cu, .ref hk, .ref ca, .int 0, .int 0, .int (-1), .int 0, .int 0])), (s0, .inr (3, [.ref a0, .ref a1, .ref a2, .ref a3, .ref a4, .ref a5, .ref a6, .int 0, .ref a7, .ref a8, .ref a9, .ref a10, .ref a11, .int 0]))]) hD hS hA [1, 0] rfl
  refine vx_callv (vx_runV (As := [.int p0]) (rest := []) ⟨hx, hb, hml, hown, ht⟩ (k5_requireObject l hl0 D C b0 H.size h0 s0 de kl tl cu hk ca a0 a1 a2 a3 a4 a5 a6 a7 a8 a9 a10 a11 p0) (cwV 1 ht (xg_V m_278 m_279 m_280 m_281 m_163) rfl rfl rfl (by decide +kernel) ⟨Nat.le_of_ble_eq_true rfl, Nat.le_of_ble_eq_true rfl⟩) ⟨xPc_bl, va_recv hK hPc (ci := 5) (q0 := 0) rfl rfl, xPc_at hPc hK hDc hE hS hAb⟩ rfl rfl hl.1 rfl (lv_room (Nat.le_of_ble_eq_true rfl)) dX5_define_6 ⟨(by decide), (by decide)⟩) hS (fun q _ h => hFc q h) hFc (fun q _ h => hFc q h) (fun E ce q9 u9 t9 H9 locs9 e9 v9 p9 b9 z9 k9 hS9 hc9 hn9 hf9 => ?_) (fun u_2 t H1 locs ht1 hvm hw hB hz1 hk1 hS => ?_)
  · skip
    obtain rfl := b9
    exact vx_out (mc := 3) (ms := 18) (fun x hx => (htab x hx).elim) hlocks hc9 hn9 hf9 (fun t ht1 hW1 => ⟨(), by first | exact p9 | trivial | assumption | (simp_all; done), rfl, hS9.F ht1⟩) hS9.2.2 (by decide) (by decide)
  · exact hw.elim
set_option maxHeartbeats 4000000 in
set_option maxRecDepth 100000 in
theorem k5_about (l : Launch) (hl0 : l.stackTraces = false) (D : va_G) (C : Nat → ClassId) (b0 sz : Nat) (h0 : Nat) (s0 : Nat) (de : Nat) (kl : Nat) (tl : Nat) (cu : Nat) (hk : Nat) (ca : Nat) (kx : Nat) (ky : Nat) (tx : Nat) (ty : Nat) (a0 : Nat) (a1 : Nat) (a2 : Nat) (a3 : Nat) (a4 : Nat) (a5 : Nat) (a6 : Nat) (a7 : Nat) (a8 : Nat) (a9 : Nat) (a10 : Nat) (a11 : Nat) (p0 : Int32) (p1 : Int32) (p2 : Int32) : vx_Met l yX5_about (xw yX5_about cX5_about 5 (some .int)) ({ frames := 48, cells := 3, slots := 18, locals := 900 }) (xPc D C b0 [.ref h0, .int p0, .int p1, .int p2] [(h0, .inr (5, [.ref s0, .ref de, .ref kl, .ref tl, .ref cu, .ref hk, .ref ca, .int 0, .int 0, .int (-1), .int 0, .int 0])), (kl, .inr (2, [.ref kx, .ref ky, .int 0])), (tl, .inr (4, [.ref tx, .ref ty, .int 1])), (s0, .inr (3, [.ref a0, .ref a1, .ref a2, .ref a3, .ref a4, .ref a5, .ref a6, .int 0, .ref a7, .ref a8, .ref a9, .ref a10, .ref a11, .int 0]))] sz) (va_Qi (fun (r : Int32) (u : xS) => False) (xBw D (va_A [(h0, .inr (5, [.ref s0, .ref de, .ref kl, .ref tl, .ref cu, .ref hk, .ref ca, .int 0, .int 0, .int (-1), .int 0, .int 0])), (kl, .inr (2, [.ref kx, .ref ky, .int 0])), (tl, .inr (4, [.ref tx, .ref ty, .int 1])), (s0, .inr (3, [.ref a0, .ref a1, .ref a2, .ref a3, .ref a4, .ref a5, .ref a6, .int 0, .ref a7, .ref a8, .ref a9, .ref a10, .ref a11, .int 0]))] sz) (fun u => [])) (va_A [(h0, .inr (5, [.ref s0, .ref de, .ref kl, .ref tl, .ref cu, .ref hk, .ref ca, .int 0, .int 0, .int (-1), .int 0, .int 0])), (kl, .inr (2, [.ref kx, .ref ky, .int 0])), (tl, .inr (4, [.ref tx, .ref ty, .int 1])), (s0, .inr (3, [.ref a0, .ref a1, .ref a2, .ref a3, .ref a4, .ref a5, .ref a6, .int 0, .ref a7, .ref a8, .ref a9, .ref a10, .ref a11, .int 0]))] sz)) (xX xIAE (True) (va_A [(h0, .inr (5, [.ref s0, .ref de, .ref kl, .ref tl, .ref cu, .ref hk, .ref ca, .int 0, .int 0, .int (-1), .int 0, .int 0])), (kl, .inr (2, [.ref kx, .ref ky, .int 0])), (tl, .inr (4, [.ref tx, .ref ty, .int 1])), (s0, .inr (3, [.ref a0, .ref a1, .ref a2, .ref a3, .ref a4, .ref a5, .ref a6, .int 0, .ref a7, .ref a8, .ref a9, .ref a10, .ref a11, .int 0]))] sz)) 3 18 (va_A [(h0, .inr (5, [.ref s0, .ref de, .ref kl, .ref tl, .ref cu, .ref hk, .ref ca, .int 0, .int 0, .int (-1), .int 0, .int 0])), (kl, .inr (2, [.ref kx, .ref ky, .int 0])), (tl, .inr (4, [.ref tx, .ref ty, .int 1])), (s0, .inr (3, [.ref a0, .ref a1, .ref a2, .ref a3, .ref a4, .ref a5, .ref a6, .int 0, .ref a7, .ref a8, .ref a9, .ref a10, .ref a11, .int 0]))] sz) := by
  refine vx_ofW (cc := cX5_about) (maxL := 5) (ret := (some .int)) (by decide) rfl ?_
  intro p e s m args below meth c s₁ B hml htab hv
  obtain ⟨rfl, hsz, hP, hK, hD0, hE⟩ := hv
  have hx := B.exec
  have hb := B.bytes
  have hr := B.returns
  have ht : ∀ w ∈ xb, w.before _ s = true := fun w h => atoms_spec (ws := xw yX5_about cX5_about 5 (some .int)) B.pre w (List.mem_cons_of_mem _ h)
  have hown : s.vm.findClass RX5 = some m.cls := findClass_of_methodNamed B.named
  have hlocks := B.notSynchronized
  subst hsz
  have hAb := x_Ab hD0 hE.1
  have hD := hD0.self (sz := s.heap.size)
  generalize hAe : va_A [(h0, .inr (5, [.ref s0, .ref de, .ref kl, .ref tl, .ref cu, .ref hk, .ref ca, .int 0, .int 0, .int (-1), .int 0, .int 0])), (kl, .inr (2, [.ref kx, .ref ky, .int 0])), (tl, .inr (4, [.ref tx, .ref ty, .int 1])), (s0, .inr (3, [.ref a0, .ref a1, .ref a2, .ref a3, .ref a4, .ref a5, .ref a6, .int 0, .ref a7, .ref a8, .ref a9, .ref a10, .ref a11, .int 0]))] s.heap.size = A at hD hAb ⊢
  have hA : ∀ q : Nat, s.heap.size ≤ q → A q := fun q h => by rw [← hAe]; exact Or.inr h
  have hS : va_S A s.heap s.heap [] := va_S.rf
  have hP : va_P D vwCl [(h0, .inr (5, [.ref s0, .ref de, .ref kl, .ref tl, .ref cu, .ref hk, .ref ca, .int 0, .int 0, .int (-1), .int 0, .int 0])), (kl, .inr (2, [.ref kx, .ref ky, .int 0])), (tl, .inr (4, [.ref tx, .ref ty, .int 1])), (s0, .inr (3, [.ref a0, .ref a1, .ref a2, .ref a3, .ref a4, .ref a5, .ref a6, .int 0, .ref a7, .ref a8, .ref a9, .ref a10, .ref a11, .int 0]))] s.heap := hP
  have hl := lv_entry ([.ref h0, .int p0, .int p1, .int p2]) (n := 5) (Nat.le_of_ble_eq_true rfl)
  rw [lg_entry_eq]
  generalize (lg_sl ([.ref h0, .int p0, .int p1, .int p2]) ++ List.replicate (5 - (lg_sl ([.ref h0, .int p0, .int p1, .int p2])).length) Slot.unset).toArray = ls at hl ⊢
  have hl : lv_has ls 5 [(0, .ref h0), (1, .int p0), (2, .int p1), (3, .int p2)] := hl
  refine lv_aload_n hx hb dX5_about_0 rfl (lv_at hl 0 rfl) ?_
  have hPc := hP.sub (ws' := [(h0, .inr (5, [.ref s0, .ref de, .ref kl, .ref tl, .ref cu, .ref hk, .ref ca, .int 0, .int 0, .int (-1), .int 0, .int 0])), (kl, .inr (2, [.ref kx, .ref ky, .int 0])), (tl, .inr (4, [.ref tx, .ref ty, .int 1]))]) [0, 1, 2] rfl
  have hDc := hD.sub (ws' := [(h0, .inr (5, [.ref s0, .ref de, .ref kl, .ref tl, .ref cu, .ref hk, .ref ca, .int 0, .int 0, .int (-1), .int 0, .int 0])), (kl, .inr (2, [.ref kx, .ref ky, .int 0])), (tl, .inr (4, [.ref tx, .ref ty, .int 1]))]) [0, 1, 2] (by decide) rfl
  have hFc := va_free (wc := [(h0, .inr (5, [.ref s0, .ref de, .ref kl, .ref tl, .ref cu, .ref hk, .ref ca, .int 0, .int 0, .int (-1), .int 0, .int 0])), (kl, .inr (2, [.ref kx, .ref ky, .int 0])), (tl, .inr (4, [.ref tx, .ref ty, .int 1]))]) hD hS hA [0, 1, 2] rfl
  refine va_callv (va_runV (As := []) (rest := []) ⟨hx, hb, hml, hown, ht⟩ (k5_begin l D C b0 s.heap.size h0 s0 de kl tl cu hk ca kx ky tx ty) (cwV 0 ht (xg_V m_322 m_323 m_324 m_281 m_162) rfl rfl rfl (by decide +kernel) ⟨Nat.le_of_ble_eq_true rfl, Nat.le_of_ble_eq_true rfl⟩) ⟨xPc_bl, va_recv hK hPc (ci := 5) (q0 := 0) rfl rfl, xPc_at hPc hK hDc hE hS hAb⟩ rfl rfl hl.1 rfl (lv_room (Nat.le_of_ble_eq_true rfl)) dX5_about_1 ⟨(by decide), (by decide)⟩) hS (fun q _ h => hFc q h) hFc (fun u_1 t H1 locs ht1 hvm hw hB hz1 hk1 hS => ?_)
  obtain ⟨hP1, hD1⟩ := hB
  rw [ht1] at hP1
  try dsimp only at hw
  obtain ⟨hP, hD⟩ := va_join (wr := [(s0, .inr (3, [.ref a0, .ref a1, .ref a2, .ref a3, .ref a4, .ref a5, .ref a6, .int 0, .ref a7, .ref a8, .ref a9, .ref a10, .ref a11, .int 0]))]) (w1 := [(h0, .inr (5, [.ref s0, .ref de, .ref kl, .ref tl, .ref cu, .ref hk, .ref ca, .int 0, .int 0, .int (-1), .int 0, .int 0])), (kl, .inr (2, [.ref kx, .ref ky, .int 0])), (tl, .inr (4, [.ref tx, .ref ty, .int 2]))]) hP hD [0, 1, 2] [3] rfl rfl (by decide) (by decide) hk1 hFc hP1 hD1
  generalize H1 = H at hP hS ⊢
  have hP : va_P D vwCl [(s0, .inr (3, [.ref a0, .ref a1, .ref a2, .ref a3, .ref a4, .ref a5, .ref a6, .int 0, .ref a7, .ref a8, .ref a9, .ref a10, .ref a11, .int 0])), (h0, .inr (5, [.ref s0, .ref de, .ref kl, .ref tl, .ref cu, .ref hk, .ref ca, .int 0, .int 0, .int (-1), .int 0, .int 0])), (kl, .inr (2, [.ref kx, .ref ky, .int 0])), (tl, .inr (4, [.ref tx, .ref ty, .int 2]))] H := hP
  have hD : va_D A [(s0, .inr (3, [.ref a0, .ref a1, .ref a2, .ref a3, .ref a4, .ref a5, .ref a6, .int 0, .ref a7, .ref a8, .ref a9, .ref a10, .ref a11, .int 0])), (h0, .inr (5, [.ref s0, .ref de, .ref kl, .ref tl, .ref cu, .ref hk, .ref ca, .int 0, .int 0, .int (-1), .int 0, .int 0])), (kl, .inr (2, [.ref kx, .ref ky, .int 0])), (tl, .inr (4, [.ref tx, .ref ty, .int 2]))] := hD
  have hq_1 := hw
  refine lv_aload_n hx hb dX5_about_4 rfl (lv_at hl 0 rfl) ?_
  refine lv_iload_n hx hb dX5_about_5 rfl (lv_at hl 1 rfl) ?_
  have hPc := hP.sub (ws' := [(h0, .inr (5, [.ref s0, .ref de, .ref kl, .ref tl, .ref cu, .ref hk, .ref ca, .int 0, .int 0, .int (-1), .int 0, .int 0])), (s0, .inr (3, [.ref a0, .ref a1, .ref a2, .ref a3, .ref a4, .ref a5, .ref a6, .int 0, .ref a7, .ref a8, .ref a9, .ref a10, .ref a11, .int 0]))]) [1, 0] rfl
  have hDc := hD.sub (ws' := [(h0, .inr (5, [.ref s0, .ref de, .ref kl, .ref tl, .ref cu, .ref hk, .ref ca, .int 0, .int 0, .int (-1), .int 0, .int 0])), (s0, .inr (3, [.ref a0, .ref a1, .ref a2, .ref a3, .ref a4, .ref a5, .ref a6, .int 0, .ref a7, .ref a8, .ref a9, .ref a10, .ref a11, .int 0]))]) [1, 0] (by decide) rfl
  have hFc := va_free (wc := [(h0, .inr (5, [.ref s0, .ref de, .ref kl, .ref tl, .ref cu, .ref hk, .ref ca, .int 0, .int 0, .int (-1), .int 0, .int 0])), (s0, .inr (3, [.ref a0, .ref a1, .ref a2, .ref a3, .ref a4, .ref a5, .ref a6, .int 0, .ref a7, .ref a8, .ref a9, .ref a10, .ref a11, .int 0]))]) hD hS hA [1, 0] rfl
  refine vx_callv (vx_runV (As := [.int p0]) (rest := []) ⟨hx, hb, hml, hown, ht⟩ (k5_requireObject l hl0 D C b0 H.size h0 s0 de kl tl cu hk ca a0 a1 a2 a3 a4 a5 a6 a7 a8 a9 a10 a11 p0) (cwV 1 ht (xg_V m_278 m_279 m_280 m_281 m_163) rfl rfl rfl (by decide +kernel) ⟨Nat.le_of_ble_eq_true rfl, Nat.le_of_ble_eq_true rfl⟩) ⟨xPc_bl, va_recv hK hPc (ci := 5) (q0 := 0) rfl rfl, xPc_at hPc hK hDc hE hS hAb⟩ rfl rfl hl.1 rfl (lv_room (Nat.le_of_ble_eq_true rfl)) dX5_about_6 ⟨(by decide), (by decide)⟩) hS (fun q _ h => hFc q h) hFc (fun q _ h => hFc q h) (fun E ce q9 u9 t9 H9 locs9 e9 v9 p9 b9 z9 k9 hS9 hc9 hn9 hf9 => ?_) (fun u_2 t H1 locs ht1 hvm hw hB hz1 hk1 hS => ?_)
  · skip
    obtain rfl := b9
    exact vx_out (mc := 3) (ms := 18) (fun x hx => (htab x hx).elim) hlocks hc9 hn9 hf9 (fun t ht1 hW1 => ⟨(), by first | exact p9 | trivial | assumption | (simp_all; done), rfl, hS9.F ht1⟩) hS9.2.2 (by decide) (by decide)
  · exact hw.elim
set_option maxHeartbeats 4000000 in
set_option maxRecDepth 100000 in
theorem k5_keys (l : Launch) (hl0 : l.stackTraces = false) (D : va_G) (C : Nat → ClassId) (b0 sz : Nat) (h0 : Nat) (s0 : Nat) (de : Nat) (kl : Nat) (tl : Nat) (cu : Nat) (hk : Nat) (ca : Nat) (kx : Nat) (ky : Nat) (tx : Nat) (ty : Nat) (a0 : Nat) (a1 : Nat) (a2 : Nat) (a3 : Nat) (a4 : Nat) (a5 : Nat) (a6 : Nat) (a7 : Nat) (a8 : Nat) (a9 : Nat) (a10 : Nat) (a11 : Nat) (p0 : Int32) (p1 : Int32) : vx_Met l yX5_keys (xw yX5_keys cX5_keys 5 (some .int)) ({ frames := 48, cells := 3, slots := 18, locals := 900 }) (xPc D C b0 [.ref h0, .int p0, .int p1] [(h0, .inr (5, [.ref s0, .ref de, .ref kl, .ref tl, .ref cu, .ref hk, .ref ca, .int 0, .int 0, .int (-1), .int 0, .int 0])), (kl, .inr (2, [.ref kx, .ref ky, .int 0])), (tl, .inr (4, [.ref tx, .ref ty, .int 1])), (s0, .inr (3, [.ref a0, .ref a1, .ref a2, .ref a3, .ref a4, .ref a5, .ref a6, .int 0, .ref a7, .ref a8, .ref a9, .ref a10, .ref a11, .int 0]))] sz) (va_Qi (fun (r : Int32) (u : xS) => False) (xBw D (va_A [(h0, .inr (5, [.ref s0, .ref de, .ref kl, .ref tl, .ref cu, .ref hk, .ref ca, .int 0, .int 0, .int (-1), .int 0, .int 0])), (kl, .inr (2, [.ref kx, .ref ky, .int 0])), (tl, .inr (4, [.ref tx, .ref ty, .int 1])), (s0, .inr (3, [.ref a0, .ref a1, .ref a2, .ref a3, .ref a4, .ref a5, .ref a6, .int 0, .ref a7, .ref a8, .ref a9, .ref a10, .ref a11, .int 0]))] sz) (fun u => [])) (va_A [(h0, .inr (5, [.ref s0, .ref de, .ref kl, .ref tl, .ref cu, .ref hk, .ref ca, .int 0, .int 0, .int (-1), .int 0, .int 0])), (kl, .inr (2, [.ref kx, .ref ky, .int 0])), (tl, .inr (4, [.ref tx, .ref ty, .int 1])), (s0, .inr (3, [.ref a0, .ref a1, .ref a2, .ref a3, .ref a4, .ref a5, .ref a6, .int 0, .ref a7, .ref a8, .ref a9, .ref a10, .ref a11, .int 0]))] sz)) (xX xIAE (True) (va_A [(h0, .inr (5, [.ref s0, .ref de, .ref kl, .ref tl, .ref cu, .ref hk, .ref ca, .int 0, .int 0, .int (-1), .int 0, .int 0])), (kl, .inr (2, [.ref kx, .ref ky, .int 0])), (tl, .inr (4, [.ref tx, .ref ty, .int 1])), (s0, .inr (3, [.ref a0, .ref a1, .ref a2, .ref a3, .ref a4, .ref a5, .ref a6, .int 0, .ref a7, .ref a8, .ref a9, .ref a10, .ref a11, .int 0]))] sz)) 3 18 (va_A [(h0, .inr (5, [.ref s0, .ref de, .ref kl, .ref tl, .ref cu, .ref hk, .ref ca, .int 0, .int 0, .int (-1), .int 0, .int 0])), (kl, .inr (2, [.ref kx, .ref ky, .int 0])), (tl, .inr (4, [.ref tx, .ref ty, .int 1])), (s0, .inr (3, [.ref a0, .ref a1, .ref a2, .ref a3, .ref a4, .ref a5, .ref a6, .int 0, .ref a7, .ref a8, .ref a9, .ref a10, .ref a11, .int 0]))] sz) := by
  refine vx_ofW (cc := cX5_keys) (maxL := 5) (ret := (some .int)) (by decide) rfl ?_
  intro p e s m args below meth c s₁ B hml htab hv
  obtain ⟨rfl, hsz, hP, hK, hD0, hE⟩ := hv
  have hx := B.exec
  have hb := B.bytes
  have hr := B.returns
  have ht : ∀ w ∈ xb, w.before _ s = true := fun w h => atoms_spec (ws := xw yX5_keys cX5_keys 5 (some .int)) B.pre w (List.mem_cons_of_mem _ h)
  have hown : s.vm.findClass RX5 = some m.cls := findClass_of_methodNamed B.named
  have hlocks := B.notSynchronized
  subst hsz
  have hAb := x_Ab hD0 hE.1
  have hD := hD0.self (sz := s.heap.size)
  generalize hAe : va_A [(h0, .inr (5, [.ref s0, .ref de, .ref kl, .ref tl, .ref cu, .ref hk, .ref ca, .int 0, .int 0, .int (-1), .int 0, .int 0])), (kl, .inr (2, [.ref kx, .ref ky, .int 0])), (tl, .inr (4, [.ref tx, .ref ty, .int 1])), (s0, .inr (3, [.ref a0, .ref a1, .ref a2, .ref a3, .ref a4, .ref a5, .ref a6, .int 0, .ref a7, .ref a8, .ref a9, .ref a10, .ref a11, .int 0]))] s.heap.size = A at hD hAb ⊢
  have hA : ∀ q : Nat, s.heap.size ≤ q → A q := fun q h => by rw [← hAe]; exact Or.inr h
  have hS : va_S A s.heap s.heap [] := va_S.rf
  have hP : va_P D vwCl [(h0, .inr (5, [.ref s0, .ref de, .ref kl, .ref tl, .ref cu, .ref hk, .ref ca, .int 0, .int 0, .int (-1), .int 0, .int 0])), (kl, .inr (2, [.ref kx, .ref ky, .int 0])), (tl, .inr (4, [.ref tx, .ref ty, .int 1])), (s0, .inr (3, [.ref a0, .ref a1, .ref a2, .ref a3, .ref a4, .ref a5, .ref a6, .int 0, .ref a7, .ref a8, .ref a9, .ref a10, .ref a11, .int 0]))] s.heap := hP
  have hl := lv_entry ([.ref h0, .int p0, .int p1]) (n := 5) (Nat.le_of_ble_eq_true rfl)
  rw [lg_entry_eq]
  generalize (lg_sl ([.ref h0, .int p0, .int p1]) ++ List.replicate (5 - (lg_sl ([.ref h0, .int p0, .int p1])).length) Slot.unset).toArray = ls at hl ⊢
  have hl : lv_has ls 5 [(0, .ref h0), (1, .int p0), (2, .int p1)] := hl
  refine lv_aload_n hx hb dX5_keys_0 rfl (lv_at hl 0 rfl) ?_
  have hPc := hP.sub (ws' := [(h0, .inr (5, [.ref s0, .ref de, .ref kl, .ref tl, .ref cu, .ref hk, .ref ca, .int 0, .int 0, .int (-1), .int 0, .int 0])), (kl, .inr (2, [.ref kx, .ref ky, .int 0])), (tl, .inr (4, [.ref tx, .ref ty, .int 1]))]) [0, 1, 2] rfl
  have hDc := hD.sub (ws' := [(h0, .inr (5, [.ref s0, .ref de, .ref kl, .ref tl, .ref cu, .ref hk, .ref ca, .int 0, .int 0, .int (-1), .int 0, .int 0])), (kl, .inr (2, [.ref kx, .ref ky, .int 0])), (tl, .inr (4, [.ref tx, .ref ty, .int 1]))]) [0, 1, 2] (by decide) rfl
  have hFc := va_free (wc := [(h0, .inr (5, [.ref s0, .ref de, .ref kl, .ref tl, .ref cu, .ref hk, .ref ca, .int 0, .int 0, .int (-1), .int 0, .int 0])), (kl, .inr (2, [.ref kx, .ref ky, .int 0])), (tl, .inr (4, [.ref tx, .ref ty, .int 1]))]) hD hS hA [0, 1, 2] rfl
  refine va_callv (va_runV (As := []) (rest := []) ⟨hx, hb, hml, hown, ht⟩ (k5_begin l D C b0 s.heap.size h0 s0 de kl tl cu hk ca kx ky tx ty) (cwV 0 ht (xg_V m_322 m_323 m_324 m_281 m_162) rfl rfl rfl (by decide +kernel) ⟨Nat.le_of_ble_eq_true rfl, Nat.le_of_ble_eq_true rfl⟩) ⟨xPc_bl, va_recv hK hPc (ci := 5) (q0 := 0) rfl rfl, xPc_at hPc hK hDc hE hS hAb⟩ rfl rfl hl.1 rfl (lv_room (Nat.le_of_ble_eq_true rfl)) dX5_keys_1 ⟨(by decide), (by decide)⟩) hS (fun q _ h => hFc q h) hFc (fun u_1 t H1 locs ht1 hvm hw hB hz1 hk1 hS => ?_)
  obtain ⟨hP1, hD1⟩ := hB
  rw [ht1] at hP1
  try dsimp only at hw
  obtain ⟨hP, hD⟩ := va_join (wr := [(s0, .inr (3, [.ref a0, .ref a1, .ref a2, .ref a3, .ref a4, .ref a5, .ref a6, .int 0, .ref a7, .ref a8, .ref a9, .ref a10, .ref a11, .int 0]))]) (w1 := [(h0, .inr (5, [.ref s0, .ref de, .ref kl, .ref tl, .ref cu, .ref hk, .ref ca, .int 0, .int 0, .int (-1), .int 0, .int 0])), (kl, .inr (2, [.ref kx, .ref ky, .int 0])), (tl, .inr (4, [.ref tx, .ref ty, .int 2]))]) hP hD [0, 1, 2] [3] rfl rfl (by decide) (by decide) hk1 hFc hP1 hD1
  generalize H1 = H at hP hS ⊢
  have hP : va_P D vwCl [(s0, .inr (3, [.ref a0, .ref a1, .ref a2, .ref a3, .ref a4, .ref a5, .ref a6, .int 0, .ref a7, .ref a8, .ref a9, .ref a10, .ref a11, .int 0])), (h0, .inr (5, [.ref s0, .ref de, .ref kl, .ref tl, .ref cu, .ref hk, .ref ca, .int 0, .int 0, .int (-1), .int 0, .int 0])), (kl, .inr (2, [.ref kx, .ref ky, .int 0])), (tl, .inr (4, [.ref tx, .ref ty, .int 2]))] H := hP
  have hD : va_D A [(s0, .inr (3, [.ref a0, .ref a1, .ref a2, .ref a3, .ref a4, .ref a5, .ref a6, .int 0, .ref a7, .ref a8, .ref a9, .ref a10, .ref a11, .int 0])), (h0, .inr (5, [.ref s0, .ref de, .ref kl, .ref tl, .ref cu, .ref hk, .ref ca, .int 0, .int 0, .int (-1), .int 0, .int 0])), (kl, .inr (2, [.ref kx, .ref ky, .int 0])), (tl, .inr (4, [.ref tx, .ref ty, .int 2]))] := hD
  have hq_1 := hw
  refine lv_aload_n hx hb dX5_keys_4 rfl (lv_at hl 0 rfl) ?_
  refine lv_iload_n hx hb dX5_keys_5 rfl (lv_at hl 1 rfl) ?_
  have hPc := hP.sub (ws' := [(h0, .inr (5, [.ref s0, .ref de, .ref kl, .ref tl, .ref cu, .ref hk, .ref ca, .int 0, .int 0, .int (-1), .int 0, .int 0])), (s0, .inr (3, [.ref a0, .ref a1, .ref a2, .ref a3, .ref a4, .ref a5, .ref a6, .int 0, .ref a7, .ref a8, .ref a9, .ref a10, .ref a11, .int 0]))]) [1, 0] rfl
  have hDc := hD.sub (ws' := [(h0, .inr (5, [.ref s0, .ref de, .ref kl, .ref tl, .ref cu, .ref hk, .ref ca, .int 0, .int 0, .int (-1), .int 0, .int 0])), (s0, .inr (3, [.ref a0, .ref a1, .ref a2, .ref a3, .ref a4, .ref a5, .ref a6, .int 0, .ref a7, .ref a8, .ref a9, .ref a10, .ref a11, .int 0]))]) [1, 0] (by decide) rfl
  have hFc := va_free (wc := [(h0, .inr (5, [.ref s0, .ref de, .ref kl, .ref tl, .ref cu, .ref hk, .ref ca, .int 0, .int 0, .int (-1), .int 0, .int 0])), (s0, .inr (3, [.ref a0, .ref a1, .ref a2, .ref a3, .ref a4, .ref a5, .ref a6, .int 0, .ref a7, .ref a8, .ref a9, .ref a10, .ref a11, .int 0]))]) hD hS hA [1, 0] rfl
  refine vx_callv (vx_runV (As := [.int p0]) (rest := []) ⟨hx, hb, hml, hown, ht⟩ (k5_requireObject l hl0 D C b0 H.size h0 s0 de kl tl cu hk ca a0 a1 a2 a3 a4 a5 a6 a7 a8 a9 a10 a11 p0) (cwV 1 ht (xg_V m_278 m_279 m_280 m_281 m_163) rfl rfl rfl (by decide +kernel) ⟨Nat.le_of_ble_eq_true rfl, Nat.le_of_ble_eq_true rfl⟩) ⟨xPc_bl, va_recv hK hPc (ci := 5) (q0 := 0) rfl rfl, xPc_at hPc hK hDc hE hS hAb⟩ rfl rfl hl.1 rfl (lv_room (Nat.le_of_ble_eq_true rfl)) dX5_keys_6 ⟨(by decide), (by decide)⟩) hS (fun q _ h => hFc q h) hFc (fun q _ h => hFc q h) (fun E ce q9 u9 t9 H9 locs9 e9 v9 p9 b9 z9 k9 hS9 hc9 hn9 hf9 => ?_) (fun u_2 t H1 locs ht1 hvm hw hB hz1 hk1 hS => ?_)
  · skip
    obtain rfl := b9
    exact vx_out (mc := 3) (ms := 18) (fun x hx => (htab x hx).elim) hlocks hc9 hn9 hf9 (fun t ht1 hW1 => ⟨(), by first | exact p9 | trivial | assumption | (simp_all; done), rfl, hS9.F ht1⟩) hS9.2.2 (by decide) (by decide)
  · exact hw.elim
set_option maxHeartbeats 4000000 in
set_option maxRecDepth 100000 in
theorem k5_parent (l : Launch) (hl0 : l.stackTraces = false) (D : va_G) (C : Nat → ClassId) (b0 sz : Nat) (h0 : Nat) (s0 : Nat) (de : Nat) (kl : Nat) (tl : Nat) (cu : Nat) (hk : Nat) (ca : Nat) (kx : Nat) (ky : Nat) (tx : Nat) (ty : Nat) (a0 : Nat) (a1 : Nat) (a2 : Nat) (a3 : Nat) (a4 : Nat) (a5 : Nat) (a6 : Nat) (a7 : Nat) (a8 : Nat) (a9 : Nat) (a10 : Nat) (a11 : Nat) (p0 : Int32) : vx_Met l yX5_parent (xw yX5_parent cX5_parent 2 (some .int)) ({ frames := 48, cells := 3, slots := 18, locals := 900 }) (xPc D C b0 [.ref h0, .int p0] [(h0, .inr (5, [.ref s0, .ref de, .ref kl, .ref tl, .ref cu, .ref hk, .ref ca, .int 0, .int 0, .int (-1), .int 0, .int 0])), (kl, .inr (2, [.ref kx, .ref ky, .int 0])), (tl, .inr (4, [.ref tx, .ref ty, .int 1])), (s0, .inr (3, [.ref a0, .ref a1, .ref a2, .ref a3, .ref a4, .ref a5, .ref a6, .int 0, .ref a7, .ref a8, .ref a9, .ref a10, .ref a11, .int 0]))] sz) (va_Qi (fun (r : Int32) (u : xS) => False) (xBw D (va_A [(h0, .inr (5, [.ref s0, .ref de, .ref kl, .ref tl, .ref cu, .ref hk, .ref ca, .int 0, .int 0, .int (-1), .int 0, .int 0])), (kl, .inr (2, [.ref kx, .ref ky, .int 0])), (tl, .inr (4, [.ref tx, .ref ty, .int 1])), (s0, .inr (3, [.ref a0, .ref a1, .ref a2, .ref a3, .ref a4, .ref a5, .ref a6, .int 0, .ref a7, .ref a8, .ref a9, .ref a10, .ref a11, .int 0]))] sz) (fun u => [])) (va_A [(h0, .inr (5, [.ref s0, .ref de, .ref kl, .ref tl, .ref cu, .ref hk, .ref ca, .int 0, .int 0, .int (-1), .int 0, .int 0])), (kl, .inr (2, [.ref kx, .ref ky, .int 0])), (tl, .inr (4, [.ref tx, .ref ty, .int 1])), (s0, .inr (3, [.ref a0, .ref a1, .ref a2, .ref a3, .ref a4, .ref a5, .ref a6, .int 0, .ref a7, .ref a8, .ref a9, .ref a10, .ref a11, .int 0]))] sz)) (xX xIAE (True) (va_A [(h0, .inr (5, [.ref s0, .ref de, .ref kl, .ref tl, .ref cu, .ref hk, .ref ca, .int 0, .int 0, .int (-1), .int 0, .int 0])), (kl, .inr (2, [.ref kx, .ref ky, .int 0])), (tl, .inr (4, [.ref tx, .ref ty, .int 1])), (s0, .inr (3, [.ref a0, .ref a1, .ref a2, .ref a3, .ref a4, .ref a5, .ref a6, .int 0, .ref a7, .ref a8, .ref a9, .ref a10, .ref a11, .int 0]))] sz)) 3 18 (va_A [(h0, .inr (5, [.ref s0, .ref de, .ref kl, .ref tl, .ref cu, .ref hk, .ref ca, .int 0, .int 0, .int (-1), .int 0, .int 0])), (kl, .inr (2, [.ref kx, .ref ky, .int 0])), (tl, .inr (4, [.ref tx, .ref ty, .int 1])), (s0, .inr (3, [.ref a0, .ref a1, .ref a2, .ref a3, .ref a4, .ref a5, .ref a6, .int 0, .ref a7, .ref a8, .ref a9, .ref a10, .ref a11, .int 0]))] sz) := by
  refine vx_ofW (cc := cX5_parent) (maxL := 2) (ret := (some .int)) (by decide) rfl ?_
  intro p e s m args below meth c s₁ B hml htab hv
  obtain ⟨rfl, hsz, hP, hK, hD0, hE⟩ := hv
  have hx := B.exec
  have hb := B.bytes
  have hr := B.returns
  have ht : ∀ w ∈ xb, w.before _ s = true := fun w h => atoms_spec (ws := xw yX5_parent cX5_parent 2 (some .int)) B.pre w (List.mem_cons_of_mem _ h)
  have hown : s.vm.findClass RX5 = some m.cls := findClass_of_methodNamed B.named
  have hlocks := B.notSynchronized
  subst hsz
  have hAb := x_Ab hD0 hE.1
  have hD := hD0.self (sz := s.heap.size)
  generalize hAe : va_A [(h0, .inr (5, [.ref s0, .ref de, .ref kl, .ref tl, .ref cu, .ref hk, .ref ca, .int 0, .int 0, .int (-1), .int 0, .int 0])), (kl, .inr (2, [.ref kx, .ref ky, .int 0])), (tl, .inr (4, [.ref tx, .ref ty, .int 1])), (s0, .inr (3, [.ref a0, .ref a1, .ref a2, .ref a3, .ref a4, .ref a5, .ref a6, .int 0, .ref a7, .ref a8, .ref a9, .ref a10, .ref a11, .int 0]))] s.heap.size = A at hD hAb ⊢
  have hA : ∀ q : Nat, s.heap.size ≤ q → A q := fun q h => by rw [← hAe]; exact Or.inr h
  have hS : va_S A s.heap s.heap [] := va_S.rf
  have hP : va_P D vwCl [(h0, .inr (5, [.ref s0, .ref de, .ref kl, .ref tl, .ref cu, .ref hk, .ref ca, .int 0, .int 0, .int (-1), .int 0, .int 0])), (kl, .inr (2, [.ref kx, .ref ky, .int 0])), (tl, .inr (4, [.ref tx, .ref ty, .int 1])), (s0, .inr (3, [.ref a0, .ref a1, .ref a2, .ref a3, .ref a4, .ref a5, .ref a6, .int 0, .ref a7, .ref a8, .ref a9, .ref a10, .ref a11, .int 0]))] s.heap := hP
  have hl := lv_entry ([.ref h0, .int p0]) (n := 2) (Nat.le_of_ble_eq_true rfl)
  rw [lg_entry_eq]
  generalize (lg_sl ([.ref h0, .int p0]) ++ List.replicate (2 - (lg_sl ([.ref h0, .int p0])).length) Slot.unset).toArray = ls at hl ⊢
  have hl : lv_has ls 2 [(0, .ref h0), (1, .int p0)] := hl
  refine lv_aload_n hx hb dX5_parent_0 rfl (lv_at hl 0 rfl) ?_
  have hPc := hP.sub (ws' := [(h0, .inr (5, [.ref s0, .ref de, .ref kl, .ref tl, .ref cu, .ref hk, .ref ca, .int 0, .int 0, .int (-1), .int 0, .int 0])), (kl, .inr (2, [.ref kx, .ref ky, .int 0])), (tl, .inr (4, [.ref tx, .ref ty, .int 1]))]) [0, 1, 2] rfl
  have hDc := hD.sub (ws' := [(h0, .inr (5, [.ref s0, .ref de, .ref kl, .ref tl, .ref cu, .ref hk, .ref ca, .int 0, .int 0, .int (-1), .int 0, .int 0])), (kl, .inr (2, [.ref kx, .ref ky, .int 0])), (tl, .inr (4, [.ref tx, .ref ty, .int 1]))]) [0, 1, 2] (by decide) rfl
  have hFc := va_free (wc := [(h0, .inr (5, [.ref s0, .ref de, .ref kl, .ref tl, .ref cu, .ref hk, .ref ca, .int 0, .int 0, .int (-1), .int 0, .int 0])), (kl, .inr (2, [.ref kx, .ref ky, .int 0])), (tl, .inr (4, [.ref tx, .ref ty, .int 1]))]) hD hS hA [0, 1, 2] rfl
  refine va_callv (va_runV (As := []) (rest := []) ⟨hx, hb, hml, hown, ht⟩ (k5_begin l D C b0 s.heap.size h0 s0 de kl tl cu hk ca kx ky tx ty) (cwV 0 ht (xg_V m_322 m_323 m_324 m_281 m_162) rfl rfl rfl (by decide +kernel) ⟨Nat.le_of_ble_eq_true rfl, Nat.le_of_ble_eq_true rfl⟩) ⟨xPc_bl, va_recv hK hPc (ci := 5) (q0 := 0) rfl rfl, xPc_at hPc hK hDc hE hS hAb⟩ rfl rfl hl.1 rfl (lv_room (Nat.le_of_ble_eq_true rfl)) dX5_parent_1 ⟨(by decide), (by decide)⟩) hS (fun q _ h => hFc q h) hFc (fun u_1 t H1 locs ht1 hvm hw hB hz1 hk1 hS => ?_)
  obtain ⟨hP1, hD1⟩ := hB
  rw [ht1] at hP1
  try dsimp only at hw
  obtain ⟨hP, hD⟩ := va_join (wr := [(s0, .inr (3, [.ref a0, .ref a1, .ref a2, .ref a3, .ref a4, .ref a5, .ref a6, .int 0, .ref a7, .ref a8, .ref a9, .ref a10, .ref a11, .int 0]))]) (w1 := [(h0, .inr (5, [.ref s0, .ref de, .ref kl, .ref tl, .ref cu, .ref hk, .ref ca, .int 0, .int 0, .int (-1), .int 0, .int 0])), (kl, .inr (2, [.ref kx, .ref ky, .int 0])), (tl, .inr (4, [.ref tx, .ref ty, .int 2]))]) hP hD [0, 1, 2] [3] rfl rfl (by decide) (by decide) hk1 hFc hP1 hD1
  generalize H1 = H at hP hS ⊢
  have hP : va_P D vwCl [(s0, .inr (3, [.ref a0, .ref a1, .ref a2, .ref a3, .ref a4, .ref a5, .ref a6, .int 0, .ref a7, .ref a8, .ref a9, .ref a10, .ref a11, .int 0])), (h0, .inr (5, [.ref s0, .ref de, .ref kl, .ref tl, .ref cu, .ref hk, .ref ca, .int 0, .int 0, .int (-1), .int 0, .int 0])), (kl, .inr (2, [.ref kx, .ref ky, .int 0])), (tl, .inr (4, [.ref tx, .ref ty, .int 2]))] H := hP
  have hD : va_D A [(s0, .inr (3, [.ref a0, .ref a1, .ref a2, .ref a3, .ref a4, .ref a5, .ref a6, .int 0, .ref a7, .ref a8, .ref a9, .ref a10, .ref a11, .int 0])), (h0, .inr (5, [.ref s0, .ref de, .ref kl, .ref tl, .ref cu, .ref hk, .ref ca, .int 0, .int 0, .int (-1), .int 0, .int 0])), (kl, .inr (2, [.ref kx, .ref ky, .int 0])), (tl, .inr (4, [.ref tx, .ref ty, .int 2]))] := hD
  have hq_1 := hw
  refine lv_aload_n hx hb dX5_parent_4 rfl (lv_at hl 0 rfl) ?_
  refine lv_iload_n hx hb dX5_parent_5 rfl (lv_at hl 1 rfl) ?_
  have hPc := hP.sub (ws' := [(h0, .inr (5, [.ref s0, .ref de, .ref kl, .ref tl, .ref cu, .ref hk, .ref ca, .int 0, .int 0, .int (-1), .int 0, .int 0])), (s0, .inr (3, [.ref a0, .ref a1, .ref a2, .ref a3, .ref a4, .ref a5, .ref a6, .int 0, .ref a7, .ref a8, .ref a9, .ref a10, .ref a11, .int 0]))]) [1, 0] rfl
  have hDc := hD.sub (ws' := [(h0, .inr (5, [.ref s0, .ref de, .ref kl, .ref tl, .ref cu, .ref hk, .ref ca, .int 0, .int 0, .int (-1), .int 0, .int 0])), (s0, .inr (3, [.ref a0, .ref a1, .ref a2, .ref a3, .ref a4, .ref a5, .ref a6, .int 0, .ref a7, .ref a8, .ref a9, .ref a10, .ref a11, .int 0]))]) [1, 0] (by decide) rfl
  have hFc := va_free (wc := [(h0, .inr (5, [.ref s0, .ref de, .ref kl, .ref tl, .ref cu, .ref hk, .ref ca, .int 0, .int 0, .int (-1), .int 0, .int 0])), (s0, .inr (3, [.ref a0, .ref a1, .ref a2, .ref a3, .ref a4, .ref a5, .ref a6, .int 0, .ref a7, .ref a8, .ref a9, .ref a10, .ref a11, .int 0]))]) hD hS hA [1, 0] rfl
  refine vx_callv (vx_runV (As := [.int p0]) (rest := []) ⟨hx, hb, hml, hown, ht⟩ (k5_requireObject l hl0 D C b0 H.size h0 s0 de kl tl cu hk ca a0 a1 a2 a3 a4 a5 a6 a7 a8 a9 a10 a11 p0) (cwV 1 ht (xg_V m_278 m_279 m_280 m_281 m_163) rfl rfl rfl (by decide +kernel) ⟨Nat.le_of_ble_eq_true rfl, Nat.le_of_ble_eq_true rfl⟩) ⟨xPc_bl, va_recv hK hPc (ci := 5) (q0 := 0) rfl rfl, xPc_at hPc hK hDc hE hS hAb⟩ rfl rfl hl.1 rfl (lv_room (Nat.le_of_ble_eq_true rfl)) dX5_parent_6 ⟨(by decide), (by decide)⟩) hS (fun q _ h => hFc q h) hFc (fun q _ h => hFc q h) (fun E ce q9 u9 t9 H9 locs9 e9 v9 p9 b9 z9 k9 hS9 hc9 hn9 hf9 => ?_) (fun u_2 t H1 locs ht1 hvm hw hB hz1 hk1 hS => ?_)
  · skip
    obtain rfl := b9
    exact vx_out (mc := 3) (ms := 18) (fun x hx => (htab x hx).elim) hlocks hc9 hn9 hf9 (fun t ht1 hW1 => ⟨(), by first | exact p9 | trivial | assumption | (simp_all; done), rfl, hS9.F ht1⟩) hS9.2.2 (by decide) (by decide)
  · exact hw.elim
set_option maxHeartbeats 4000000 in
set_option maxRecDepth 100000 in
theorem k5_setParent (l : Launch) (hl0 : l.stackTraces = false) (D : va_G) (C : Nat → ClassId) (b0 sz : Nat) (h0 : Nat) (s0 : Nat) (de : Nat) (kl : Nat) (tl : Nat) (cu : Nat) (hk : Nat) (ca : Nat) (kx : Nat) (ky : Nat) (tx : Nat) (ty : Nat) (a0 : Nat) (a1 : Nat) (a2 : Nat) (a3 : Nat) (a4 : Nat) (a5 : Nat) (a6 : Nat) (a7 : Nat) (a8 : Nat) (a9 : Nat) (a10 : Nat) (a11 : Nat) (p0 : Int32) (p1 : Int32) : vx_Met l yX5_setParent (xw yX5_setParent cX5_setParent 3 (some .boolean)) ({ frames := 48, cells := 3, slots := 18, locals := 900 }) (xPc D C b0 [.ref h0, .int p0, .int p1] [(h0, .inr (5, [.ref s0, .ref de, .ref kl, .ref tl, .ref cu, .ref hk, .ref ca, .int 0, .int 0, .int (-1), .int 0, .int 0])), (kl, .inr (2, [.ref kx, .ref ky, .int 0])), (tl, .inr (4, [.ref tx, .ref ty, .int 1])), (s0, .inr (3, [.ref a0, .ref a1, .ref a2, .ref a3, .ref a4, .ref a5, .ref a6, .int 0, .ref a7, .ref a8, .ref a9, .ref a10, .ref a11, .int 0]))] sz) (va_Qi (fun (r : Int32) (u : xS) => False) (xBw D (va_A [(h0, .inr (5, [.ref s0, .ref de, .ref kl, .ref tl, .ref cu, .ref hk, .ref ca, .int 0, .int 0, .int (-1), .int 0, .int 0])), (kl, .inr (2, [.ref kx, .ref ky, .int 0])), (tl, .inr (4, [.ref tx, .ref ty, .int 1])), (s0, .inr (3, [.ref a0, .ref a1, .ref a2, .ref a3, .ref a4, .ref a5, .ref a6, .int 0, .ref a7, .ref a8, .ref a9, .ref a10, .ref a11, .int 0]))] sz) (fun u => [])) (va_A [(h0, .inr (5, [.ref s0, .ref de, .ref kl, .ref tl, .ref cu, .ref hk, .ref ca, .int 0, .int 0, .int (-1), .int 0, .int 0])), (kl, .inr (2, [.ref kx, .ref ky, .int 0])), (tl, .inr (4, [.ref tx, .ref ty, .int 1])), (s0, .inr (3, [.ref a0, .ref a1, .ref a2, .ref a3, .ref a4, .ref a5, .ref a6, .int 0, .ref a7, .ref a8, .ref a9, .ref a10, .ref a11, .int 0]))] sz)) (xX xIAE (True) (va_A [(h0, .inr (5, [.ref s0, .ref de, .ref kl, .ref tl, .ref cu, .ref hk, .ref ca, .int 0, .int 0, .int (-1), .int 0, .int 0])), (kl, .inr (2, [.ref kx, .ref ky, .int 0])), (tl, .inr (4, [.ref tx, .ref ty, .int 1])), (s0, .inr (3, [.ref a0, .ref a1, .ref a2, .ref a3, .ref a4, .ref a5, .ref a6, .int 0, .ref a7, .ref a8, .ref a9, .ref a10, .ref a11, .int 0]))] sz)) 3 18 (va_A [(h0, .inr (5, [.ref s0, .ref de, .ref kl, .ref tl, .ref cu, .ref hk, .ref ca, .int 0, .int 0, .int (-1), .int 0, .int 0])), (kl, .inr (2, [.ref kx, .ref ky, .int 0])), (tl, .inr (4, [.ref tx, .ref ty, .int 1])), (s0, .inr (3, [.ref a0, .ref a1, .ref a2, .ref a3, .ref a4, .ref a5, .ref a6, .int 0, .ref a7, .ref a8, .ref a9, .ref a10, .ref a11, .int 0]))] sz) := by
  refine vx_ofW (cc := cX5_setParent) (maxL := 3) (ret := (some .boolean)) (by decide) rfl ?_
  intro p e s m args below meth c s₁ B hml htab hv
  obtain ⟨rfl, hsz, hP, hK, hD0, hE⟩ := hv
  have hx := B.exec
  have hb := B.bytes
  have hr := B.returns
  have ht : ∀ w ∈ xb, w.before _ s = true := fun w h => atoms_spec (ws := xw yX5_setParent cX5_setParent 3 (some .boolean)) B.pre w (List.mem_cons_of_mem _ h)
  have hown : s.vm.findClass RX5 = some m.cls := findClass_of_methodNamed B.named
  have hlocks := B.notSynchronized
  subst hsz
  have hAb := x_Ab hD0 hE.1
  have hD := hD0.self (sz := s.heap.size)
  generalize hAe : va_A [(h0, .inr (5, [.ref s0, .ref de, .ref kl, .ref tl, .ref cu, .ref hk, .ref ca, .int 0, .int 0, .int (-1), .int 0, .int 0])), (kl, .inr (2, [.ref kx, .ref ky, .int 0])), (tl, .inr (4, [.ref tx, .ref ty, .int 1])), (s0, .inr (3, [.ref a0, .ref a1, .ref a2, .ref a3, .ref a4, .ref a5, .ref a6, .int 0, .ref a7, .ref a8, .ref a9, .ref a10, .ref a11, .int 0]))] s.heap.size = A at hD hAb ⊢
  have hA : ∀ q : Nat, s.heap.size ≤ q → A q := fun q h => by rw [← hAe]; exact Or.inr h
  have hS : va_S A s.heap s.heap [] := va_S.rf
  have hP : va_P D vwCl [(h0, .inr (5, [.ref s0, .ref de, .ref kl, .ref tl, .ref cu, .ref hk, .ref ca, .int 0, .int 0, .int (-1), .int 0, .int 0])), (kl, .inr (2, [.ref kx, .ref ky, .int 0])), (tl, .inr (4, [.ref tx, .ref ty, .int 1])), (s0, .inr (3, [.ref a0, .ref a1, .ref a2, .ref a3, .ref a4, .ref a5, .ref a6, .int 0, .ref a7, .ref a8, .ref a9, .ref a10, .ref a11, .int 0]))] s.heap := hP
  have hl := lv_entry ([.ref h0, .int p0, .int p1]) (n := 3) (Nat.le_of_ble_eq_true rfl)
  rw [lg_entry_eq]
  generalize (lg_sl ([.ref h0, .int p0, .int p1]) ++ List.replicate (3 - (lg_sl ([.ref h0, .int p0, .int p1])).length) Slot.unset).toArray = ls at hl ⊢
  have hl : lv_has ls 3 [(0, .ref h0), (1, .int p0), (2, .int p1)] := hl
  refine lv_aload_n hx hb dX5_setParent_0 rfl (lv_at hl 0 rfl) ?_
  have hPc := hP.sub (ws' := [(h0, .inr (5, [.ref s0, .ref de, .ref kl, .ref tl, .ref cu, .ref hk, .ref ca, .int 0, .int 0, .int (-1), .int 0, .int 0])), (kl, .inr (2, [.ref kx, .ref ky, .int 0])), (tl, .inr (4, [.ref tx, .ref ty, .int 1]))]) [0, 1, 2] rfl
  have hDc := hD.sub (ws' := [(h0, .inr (5, [.ref s0, .ref de, .ref kl, .ref tl, .ref cu, .ref hk, .ref ca, .int 0, .int 0, .int (-1), .int 0, .int 0])), (kl, .inr (2, [.ref kx, .ref ky, .int 0])), (tl, .inr (4, [.ref tx, .ref ty, .int 1]))]) [0, 1, 2] (by decide) rfl
  have hFc := va_free (wc := [(h0, .inr (5, [.ref s0, .ref de, .ref kl, .ref tl, .ref cu, .ref hk, .ref ca, .int 0, .int 0, .int (-1), .int 0, .int 0])), (kl, .inr (2, [.ref kx, .ref ky, .int 0])), (tl, .inr (4, [.ref tx, .ref ty, .int 1]))]) hD hS hA [0, 1, 2] rfl
  refine va_callv (va_runV (As := []) (rest := []) ⟨hx, hb, hml, hown, ht⟩ (k5_begin l D C b0 s.heap.size h0 s0 de kl tl cu hk ca kx ky tx ty) (cwV 0 ht (xg_V m_322 m_323 m_324 m_281 m_162) rfl rfl rfl (by decide +kernel) ⟨Nat.le_of_ble_eq_true rfl, Nat.le_of_ble_eq_true rfl⟩) ⟨xPc_bl, va_recv hK hPc (ci := 5) (q0 := 0) rfl rfl, xPc_at hPc hK hDc hE hS hAb⟩ rfl rfl hl.1 rfl (lv_room (Nat.le_of_ble_eq_true rfl)) dX5_setParent_1 ⟨(by decide), (by decide)⟩) hS (fun q _ h => hFc q h) hFc (fun u_1 t H1 locs ht1 hvm hw hB hz1 hk1 hS => ?_)
  obtain ⟨hP1, hD1⟩ := hB
  rw [ht1] at hP1
  try dsimp only at hw
  obtain ⟨hP, hD⟩ := va_join (wr := [(s0, .inr (3, [.ref a0, .ref a1, .ref a2, .ref a3, .ref a4, .ref a5, .ref a6, .int 0, .ref a7, .ref a8, .ref a9, .ref a10, .ref a11, .int 0]))]) (w1 := [(h0, .inr (5, [.ref s0, .ref de, .ref kl, .ref tl, .ref cu, .ref hk, .ref ca, .int 0, .int 0, .int (-1), .int 0, .int 0])), (kl, .inr (2, [.ref kx, .ref ky, .int 0])), (tl, .inr (4, [.ref tx, .ref ty, .int 2]))]) hP hD [0, 1, 2] [3] rfl rfl (by decide) (by decide) hk1 hFc hP1 hD1
  generalize H1 = H at hP hS ⊢
  have hP : va_P D vwCl [(s0, .inr (3, [.ref a0, .ref a1, .ref a2, .ref a3, .ref a4, .ref a5, .ref a6, .int 0, .ref a7, .ref a8, .ref a9, .ref a10, .ref a11, .int 0])), (h0, .inr (5, [.ref s0, .ref de, .ref kl, .ref tl, .ref cu, .ref hk, .ref ca, .int 0, .int 0, .int (-1), .int 0, .int 0])), (kl, .inr (2, [.ref kx, .ref ky, .int 0])), (tl, .inr (4, [.ref tx, .ref ty, .int 2]))] H := hP
  have hD : va_D A [(s0, .inr (3, [.ref a0, .ref a1, .ref a2, .ref a3, .ref a4, .ref a5, .ref a6, .int 0, .ref a7, .ref a8, .ref a9, .ref a10, .ref a11, .int 0])), (h0, .inr (5, [.ref s0, .ref de, .ref kl, .ref tl, .ref cu, .ref hk, .ref ca, .int 0, .int 0, .int (-1), .int 0, .int 0])), (kl, .inr (2, [.ref kx, .ref ky, .int 0])), (tl, .inr (4, [.ref tx, .ref ty, .int 2]))] := hD
  have hq_1 := hw
  refine lv_aload_n hx hb dX5_setParent_4 rfl (lv_at hl 0 rfl) ?_
  refine lv_iload_n hx hb dX5_setParent_5 rfl (lv_at hl 1 rfl) ?_
  have hPc := hP.sub (ws' := [(h0, .inr (5, [.ref s0, .ref de, .ref kl, .ref tl, .ref cu, .ref hk, .ref ca, .int 0, .int 0, .int (-1), .int 0, .int 0])), (s0, .inr (3, [.ref a0, .ref a1, .ref a2, .ref a3, .ref a4, .ref a5, .ref a6, .int 0, .ref a7, .ref a8, .ref a9, .ref a10, .ref a11, .int 0]))]) [1, 0] rfl
  have hDc := hD.sub (ws' := [(h0, .inr (5, [.ref s0, .ref de, .ref kl, .ref tl, .ref cu, .ref hk, .ref ca, .int 0, .int 0, .int (-1), .int 0, .int 0])), (s0, .inr (3, [.ref a0, .ref a1, .ref a2, .ref a3, .ref a4, .ref a5, .ref a6, .int 0, .ref a7, .ref a8, .ref a9, .ref a10, .ref a11, .int 0]))]) [1, 0] (by decide) rfl
  have hFc := va_free (wc := [(h0, .inr (5, [.ref s0, .ref de, .ref kl, .ref tl, .ref cu, .ref hk, .ref ca, .int 0, .int 0, .int (-1), .int 0, .int 0])), (s0, .inr (3, [.ref a0, .ref a1, .ref a2, .ref a3, .ref a4, .ref a5, .ref a6, .int 0, .ref a7, .ref a8, .ref a9, .ref a10, .ref a11, .int 0]))]) hD hS hA [1, 0] rfl
  refine vx_callv (vx_runV (As := [.int p0]) (rest := []) ⟨hx, hb, hml, hown, ht⟩ (k5_requireObject l hl0 D C b0 H.size h0 s0 de kl tl cu hk ca a0 a1 a2 a3 a4 a5 a6 a7 a8 a9 a10 a11 p0) (cwV 1 ht (xg_V m_278 m_279 m_280 m_281 m_163) rfl rfl rfl (by decide +kernel) ⟨Nat.le_of_ble_eq_true rfl, Nat.le_of_ble_eq_true rfl⟩) ⟨xPc_bl, va_recv hK hPc (ci := 5) (q0 := 0) rfl rfl, xPc_at hPc hK hDc hE hS hAb⟩ rfl rfl hl.1 rfl (lv_room (Nat.le_of_ble_eq_true rfl)) dX5_setParent_6 ⟨(by decide), (by decide)⟩) hS (fun q _ h => hFc q h) hFc (fun q _ h => hFc q h) (fun E ce q9 u9 t9 H9 locs9 e9 v9 p9 b9 z9 k9 hS9 hc9 hn9 hf9 => ?_) (fun u_2 t H1 locs ht1 hvm hw hB hz1 hk1 hS => ?_)
  · skip
    obtain rfl := b9
    exact vx_out (mc := 3) (ms := 18) (fun x hx => (htab x hx).elim) hlocks hc9 hn9 hf9 (fun t ht1 hW1 => ⟨(), by first | exact p9 | trivial | assumption | (simp_all; done), rfl, hS9.F ht1⟩) hS9.2.2 (by decide) (by decide)
  · exact hw.elim
set_option maxHeartbeats 4000000 in
set_option maxRecDepth 100000 in
theorem k5_open (l : Launch) (hl0 : l.stackTraces = false) (D : va_G) (C : Nat → ClassId) (b0 sz : Nat) (h0 : Nat) (s0 : Nat) (de : Nat) (kl : Nat) (tl : Nat) (cu : Nat) (hk : Nat) (ca : Nat) (kx : Nat) (ky : Nat) (tx : Nat) (ty : Nat) (a0 : Nat) (a1 : Nat) (a2 : Nat) (a3 : Nat) (a4 : Nat) (a5 : Nat) (a6 : Nat) (a7 : Nat) (a8 : Nat) (a9 : Nat) (a10 : Nat) (a11 : Nat) (p0 : Int32) : vx_Met l yX5_open (xw yX5_open cX5_open 2 (some .boolean)) ({ frames := 48, cells := 3, slots := 18, locals := 900 }) (xPc D C b0 [.ref h0, .int p0] [(h0, .inr (5, [.ref s0, .ref de, .ref kl, .ref tl, .ref cu, .ref hk, .ref ca, .int 0, .int 0, .int (-1), .int 0, .int 0])), (kl, .inr (2, [.ref kx, .ref ky, .int 0])), (tl, .inr (4, [.ref tx, .ref ty, .int 1])), (s0, .inr (3, [.ref a0, .ref a1, .ref a2, .ref a3, .ref a4, .ref a5, .ref a6, .int 0, .ref a7, .ref a8, .ref a9, .ref a10, .ref a11, .int 0]))] sz) (va_Qi (fun (r : Int32) (u : xS) => False) (xBw D (va_A [(h0, .inr (5, [.ref s0, .ref de, .ref kl, .ref tl, .ref cu, .ref hk, .ref ca, .int 0, .int 0, .int (-1), .int 0, .int 0])), (kl, .inr (2, [.ref kx, .ref ky, .int 0])), (tl, .inr (4, [.ref tx, .ref ty, .int 1])), (s0, .inr (3, [.ref a0, .ref a1, .ref a2, .ref a3, .ref a4, .ref a5, .ref a6, .int 0, .ref a7, .ref a8, .ref a9, .ref a10, .ref a11, .int 0]))] sz) (fun u => [])) (va_A [(h0, .inr (5, [.ref s0, .ref de, .ref kl, .ref tl, .ref cu, .ref hk, .ref ca, .int 0, .int 0, .int (-1), .int 0, .int 0])), (kl, .inr (2, [.ref kx, .ref ky, .int 0])), (tl, .inr (4, [.ref tx, .ref ty, .int 1])), (s0, .inr (3, [.ref a0, .ref a1, .ref a2, .ref a3, .ref a4, .ref a5, .ref a6, .int 0, .ref a7, .ref a8, .ref a9, .ref a10, .ref a11, .int 0]))] sz)) (xX xIAE (True) (va_A [(h0, .inr (5, [.ref s0, .ref de, .ref kl, .ref tl, .ref cu, .ref hk, .ref ca, .int 0, .int 0, .int (-1), .int 0, .int 0])), (kl, .inr (2, [.ref kx, .ref ky, .int 0])), (tl, .inr (4, [.ref tx, .ref ty, .int 1])), (s0, .inr (3, [.ref a0, .ref a1, .ref a2, .ref a3, .ref a4, .ref a5, .ref a6, .int 0, .ref a7, .ref a8, .ref a9, .ref a10, .ref a11, .int 0]))] sz)) 3 18 (va_A [(h0, .inr (5, [.ref s0, .ref de, .ref kl, .ref tl, .ref cu, .ref hk, .ref ca, .int 0, .int 0, .int (-1), .int 0, .int 0])), (kl, .inr (2, [.ref kx, .ref ky, .int 0])), (tl, .inr (4, [.ref tx, .ref ty, .int 1])), (s0, .inr (3, [.ref a0, .ref a1, .ref a2, .ref a3, .ref a4, .ref a5, .ref a6, .int 0, .ref a7, .ref a8, .ref a9, .ref a10, .ref a11, .int 0]))] sz) := by
  refine vx_ofW (cc := cX5_open) (maxL := 2) (ret := (some .boolean)) (by decide) rfl ?_
  intro p e s m args below meth c s₁ B hml htab hv
  obtain ⟨rfl, hsz, hP, hK, hD0, hE⟩ := hv
  have hx := B.exec
  have hb := B.bytes
  have hr := B.returns
  have ht : ∀ w ∈ xb, w.before _ s = true := fun w h => atoms_spec (ws := xw yX5_open cX5_open 2 (some .boolean)) B.pre w (List.mem_cons_of_mem _ h)
  have hown : s.vm.findClass RX5 = some m.cls := findClass_of_methodNamed B.named
  have hlocks := B.notSynchronized
  subst hsz
  have hAb := x_Ab hD0 hE.1
  have hD := hD0.self (sz := s.heap.size)
  generalize hAe : va_A [(h0, .inr (5, [.ref s0, .ref de, .ref kl, .ref tl, .ref cu, .ref hk, .ref ca, .int 0, .int 0, .int (-1), .int 0, .int 0])), (kl, .inr (2, [.ref kx, .ref ky, .int 0])), (tl, .inr (4, [.ref tx, .ref ty, .int 1])), (s0, .inr (3, [.ref a0, .ref a1, .ref a2, .ref a3, .ref a4, .ref a5, .ref a6, .int 0, .ref a7, .ref a8, .ref a9, .ref a10, .ref a11, .int 0]))] s.heap.size = A at hD hAb ⊢
  have hA : ∀ q : Nat, s.heap.size ≤ q → A q := fun q h => by rw [← hAe]; exact Or.inr h
  have hS : va_S A s.heap s.heap [] := va_S.rf
  have hP : va_P D vwCl [(h0, .inr (5, [.ref s0, .ref de, .ref kl, .ref tl, .ref cu, .ref hk, .ref ca, .int 0, .int 0, .int (-1), .int 0, .int 0])), (kl, .inr (2, [.ref kx, .ref ky, .int 0])), (tl, .inr (4, [.ref tx, .ref ty, .int 1])), (s0, .inr (3, [.ref a0, .ref a1, .ref a2, .ref a3, .ref a4, .ref a5, .ref a6, .int 0, .ref a7, .ref a8, .ref a9, .ref a10, .ref a11, .int 0]))] s.heap := hP
  have hl := lv_entry ([.ref h0, .int p0]) (n := 2) (Nat.le_of_ble_eq_true rfl)
  rw [lg_entry_eq]
  generalize (lg_sl ([.ref h0, .int p0]) ++ List.replicate (2 - (lg_sl ([.ref h0, .int p0])).length) Slot.unset).toArray = ls at hl ⊢
  have hl : lv_has ls 2 [(0, .ref h0), (1, .int p0)] := hl
  refine lv_aload_n hx hb dX5_open_0 rfl (lv_at hl 0 rfl) ?_
  have hPc := hP.sub (ws' := [(h0, .inr (5, [.ref s0, .ref de, .ref kl, .ref tl, .ref cu, .ref hk, .ref ca, .int 0, .int 0, .int (-1), .int 0, .int 0])), (kl, .inr (2, [.ref kx, .ref ky, .int 0])), (tl, .inr (4, [.ref tx, .ref ty, .int 1]))]) [0, 1, 2] rfl
  have hDc := hD.sub (ws' := [(h0, .inr (5, [.ref s0, .ref de, .ref kl, .ref tl, .ref cu, .ref hk, .ref ca, .int 0, .int 0, .int (-1), .int 0, .int 0])), (kl, .inr (2, [.ref kx, .ref ky, .int 0])), (tl, .inr (4, [.ref tx, .ref ty, .int 1]))]) [0, 1, 2] (by decide) rfl
  have hFc := va_free (wc := [(h0, .inr (5, [.ref s0, .ref de, .ref kl, .ref tl, .ref cu, .ref hk, .ref ca, .int 0, .int 0, .int (-1), .int 0, .int 0])), (kl, .inr (2, [.ref kx, .ref ky, .int 0])), (tl, .inr (4, [.ref tx, .ref ty, .int 1]))]) hD hS hA [0, 1, 2] rfl
  refine va_callv (va_runV (As := []) (rest := []) ⟨hx, hb, hml, hown, ht⟩ (k5_begin l D C b0 s.heap.size h0 s0 de kl tl cu hk ca kx ky tx ty) (cwV 0 ht (xg_V m_322 m_323 m_324 m_281 m_162) rfl rfl rfl (by decide +kernel) ⟨Nat.le_of_ble_eq_true rfl, Nat.le_of_ble_eq_true rfl⟩) ⟨xPc_bl, va_recv hK hPc (ci := 5) (q0 := 0) rfl rfl, xPc_at hPc hK hDc hE hS hAb⟩ rfl rfl hl.1 rfl (lv_room (Nat.le_of_ble_eq_true rfl)) dX5_open_1 ⟨(by decide), (by decide)⟩) hS (fun q _ h => hFc q h) hFc (fun u_1 t H1 locs ht1 hvm hw hB hz1 hk1 hS => ?_)
  obtain ⟨hP1, hD1⟩ := hB
  rw [ht1] at hP1
  try dsimp only at hw
  obtain ⟨hP, hD⟩ := va_join (wr := [(s0, .inr (3, [.ref a0, .ref a1, .ref a2, .ref a3, .ref a4, .ref a5, .ref a6, .int 0, .ref a7, .ref a8, .ref a9, .ref a10, .ref a11, .int 0]))]) (w1 := [(h0, .inr (5, [.ref s0, .ref de, .ref kl, .ref tl, .ref cu, .ref hk, .ref ca, .int 0, .int 0, .int (-1), .int 0, .int 0])), (kl, .inr (2, [.ref kx, .ref ky, .int 0])), (tl, .inr (4, [.ref tx, .ref ty, .int 2]))]) hP hD [0, 1, 2] [3] rfl rfl (by decide) (by decide) hk1 hFc hP1 hD1
  generalize H1 = H at hP hS ⊢
  have hP : va_P D vwCl [(s0, .inr (3, [.ref a0, .ref a1, .ref a2, .ref a3, .ref a4, .ref a5, .ref a6, .int 0, .ref a7, .ref a8, .ref a9, .ref a10, .ref a11, .int 0])), (h0, .inr (5, [.ref s0, .ref de, .ref kl, .ref tl, .ref cu, .ref hk, .ref ca, .int 0, .int 0, .int (-1), .int 0, .int 0])), (kl, .inr (2, [.ref kx, .ref ky, .int 0])), (tl, .inr (4, [.ref tx, .ref ty, .int 2]))] H := hP
  have hD : va_D A [(s0, .inr (3, [.ref a0, .ref a1, .ref a2, .ref a3, .ref a4, .ref a5, .ref a6, .int 0, .ref a7, .ref a8, .ref a9, .ref a10, .ref a11, .int 0])), (h0, .inr (5, [.ref s0, .ref de, .ref kl, .ref tl, .ref cu, .ref hk, .ref ca, .int 0, .int 0, .int (-1), .int 0, .int 0])), (kl, .inr (2, [.ref kx, .ref ky, .int 0])), (tl, .inr (4, [.ref tx, .ref ty, .int 2]))] := hD
  have hq_1 := hw
  refine lv_aload_n hx hb dX5_open_4 rfl (lv_at hl 0 rfl) ?_
  refine lv_iload_n hx hb dX5_open_5 rfl (lv_at hl 1 rfl) ?_
  have hPc := hP.sub (ws' := [(h0, .inr (5, [.ref s0, .ref de, .ref kl, .ref tl, .ref cu, .ref hk, .ref ca, .int 0, .int 0, .int (-1), .int 0, .int 0])), (s0, .inr (3, [.ref a0, .ref a1, .ref a2, .ref a3, .ref a4, .ref a5, .ref a6, .int 0, .ref a7, .ref a8, .ref a9, .ref a10, .ref a11, .int 0]))]) [1, 0] rfl
  have hDc := hD.sub (ws' := [(h0, .inr (5, [.ref s0, .ref de, .ref kl, .ref tl, .ref cu, .ref hk, .ref ca, .int 0, .int 0, .int (-1), .int 0, .int 0])), (s0, .inr (3, [.ref a0, .ref a1, .ref a2, .ref a3, .ref a4, .ref a5, .ref a6, .int 0, .ref a7, .ref a8, .ref a9, .ref a10, .ref a11, .int 0]))]) [1, 0] (by decide) rfl
  have hFc := va_free (wc := [(h0, .inr (5, [.ref s0, .ref de, .ref kl, .ref tl, .ref cu, .ref hk, .ref ca, .int 0, .int 0, .int (-1), .int 0, .int 0])), (s0, .inr (3, [.ref a0, .ref a1, .ref a2, .ref a3, .ref a4, .ref a5, .ref a6, .int 0, .ref a7, .ref a8, .ref a9, .ref a10, .ref a11, .int 0]))]) hD hS hA [1, 0] rfl
  refine vx_callv (vx_runV (As := [.int p0]) (rest := []) ⟨hx, hb, hml, hown, ht⟩ (k5_requireObject l hl0 D C b0 H.size h0 s0 de kl tl cu hk ca a0 a1 a2 a3 a4 a5 a6 a7 a8 a9 a10 a11 p0) (cwV 1 ht (xg_V m_278 m_279 m_280 m_281 m_163) rfl rfl rfl (by decide +kernel) ⟨Nat.le_of_ble_eq_true rfl, Nat.le_of_ble_eq_true rfl⟩) ⟨xPc_bl, va_recv hK hPc (ci := 5) (q0 := 0) rfl rfl, xPc_at hPc hK hDc hE hS hAb⟩ rfl rfl hl.1 rfl (lv_room (Nat.le_of_ble_eq_true rfl)) dX5_open_6 ⟨(by decide), (by decide)⟩) hS (fun q _ h => hFc q h) hFc (fun q _ h => hFc q h) (fun E ce q9 u9 t9 H9 locs9 e9 v9 p9 b9 z9 k9 hS9 hc9 hn9 hf9 => ?_) (fun u_2 t H1 locs ht1 hvm hw hB hz1 hk1 hS => ?_)
  · skip
    obtain rfl := b9
    exact vx_out (mc := 3) (ms := 18) (fun x hx => (htab x hx).elim) hlocks hc9 hn9 hf9 (fun t ht1 hW1 => ⟨(), by first | exact p9 | trivial | assumption | (simp_all; done), rfl, hS9.F ht1⟩) hS9.2.2 (by decide) (by decide)
  · exact hw.elim
set_option maxHeartbeats 4000000 in
set_option maxRecDepth 100000 in
theorem k5_shut (l : Launch) (hl0 : l.stackTraces = false) (D : va_G) (C : Nat → ClassId) (b0 sz : Nat) (h0 : Nat) (s0 : Nat) (de : Nat) (kl : Nat) (tl : Nat) (cu : Nat) (hk : Nat) (ca : Nat) (kx : Nat) (ky : Nat) (tx : Nat) (ty : Nat) (a0 : Nat) (a1 : Nat) (a2 : Nat) (a3 : Nat) (a4 : Nat) (a5 : Nat) (a6 : Nat) (a7 : Nat) (a8 : Nat) (a9 : Nat) (a10 : Nat) (a11 : Nat) (p0 : Int32) : vx_Met l yX5_shut (xw yX5_shut cX5_shut 2 (some .boolean)) ({ frames := 48, cells := 3, slots := 18, locals := 900 }) (xPc D C b0 [.ref h0, .int p0] [(h0, .inr (5, [.ref s0, .ref de, .ref kl, .ref tl, .ref cu, .ref hk, .ref ca, .int 0, .int 0, .int (-1), .int 0, .int 0])), (kl, .inr (2, [.ref kx, .ref ky, .int 0])), (tl, .inr (4, [.ref tx, .ref ty, .int 1])), (s0, .inr (3, [.ref a0, .ref a1, .ref a2, .ref a3, .ref a4, .ref a5, .ref a6, .int 0, .ref a7, .ref a8, .ref a9, .ref a10, .ref a11, .int 0]))] sz) (va_Qi (fun (r : Int32) (u : xS) => False) (xBw D (va_A [(h0, .inr (5, [.ref s0, .ref de, .ref kl, .ref tl, .ref cu, .ref hk, .ref ca, .int 0, .int 0, .int (-1), .int 0, .int 0])), (kl, .inr (2, [.ref kx, .ref ky, .int 0])), (tl, .inr (4, [.ref tx, .ref ty, .int 1])), (s0, .inr (3, [.ref a0, .ref a1, .ref a2, .ref a3, .ref a4, .ref a5, .ref a6, .int 0, .ref a7, .ref a8, .ref a9, .ref a10, .ref a11, .int 0]))] sz) (fun u => [])) (va_A [(h0, .inr (5, [.ref s0, .ref de, .ref kl, .ref tl, .ref cu, .ref hk, .ref ca, .int 0, .int 0, .int (-1), .int 0, .int 0])), (kl, .inr (2, [.ref kx, .ref ky, .int 0])), (tl, .inr (4, [.ref tx, .ref ty, .int 1])), (s0, .inr (3, [.ref a0, .ref a1, .ref a2, .ref a3, .ref a4, .ref a5, .ref a6, .int 0, .ref a7, .ref a8, .ref a9, .ref a10, .ref a11, .int 0]))] sz)) (xX xIAE (True) (va_A [(h0, .inr (5, [.ref s0, .ref de, .ref kl, .ref tl, .ref cu, .ref hk, .ref ca, .int 0, .int 0, .int (-1), .int 0, .int 0])), (kl, .inr (2, [.ref kx, .ref ky, .int 0])), (tl, .inr (4, [.ref tx, .ref ty, .int 1])), (s0, .inr (3, [.ref a0, .ref a1, .ref a2, .ref a3, .ref a4, .ref a5, .ref a6, .int 0, .ref a7, .ref a8, .ref a9, .ref a10, .ref a11, .int 0]))] sz)) 3 18 (va_A [(h0, .inr (5, [.ref s0, .ref de, .ref kl, .ref tl, .ref cu, .ref hk, .ref ca, .int 0, .int 0, .int (-1), .int 0, .int 0])), (kl, .inr (2, [.ref kx, .ref ky, .int 0])), (tl, .inr (4, [.ref tx, .ref ty, .int 1])), (s0, .inr (3, [.ref a0, .ref a1, .ref a2, .ref a3, .ref a4, .ref a5, .ref a6, .int 0, .ref a7, .ref a8, .ref a9, .ref a10, .ref a11, .int 0]))] sz) := by
  refine vx_ofW (cc := cX5_shut) (maxL := 2) (ret := (some .boolean)) (by decide) rfl ?_
  intro p e s m args below meth c s₁ B hml htab hv
  obtain ⟨rfl, hsz, hP, hK, hD0, hE⟩ := hv
  have hx := B.exec
  have hb := B.bytes
  have hr := B.returns
  have ht : ∀ w ∈ xb, w.before _ s = true := fun w h => atoms_spec (ws := xw yX5_shut cX5_shut 2 (some .boolean)) B.pre w (List.mem_cons_of_mem _ h)
  have hown : s.vm.findClass RX5 = some m.cls := findClass_of_methodNamed B.named
  have hlocks := B.notSynchronized
  subst hsz
  have hAb := x_Ab hD0 hE.1
  have hD := hD0.self (sz := s.heap.size)
  generalize hAe : va_A [(h0, .inr (5, [.ref s0, .ref de, .ref kl, .ref tl, .ref cu, .ref hk, .ref ca, .int 0, .int 0, .int (-1), .int 0, .int 0])), (kl, .inr (2, [.ref kx, .ref ky, .int 0])), (tl, .inr (4, [.ref tx, .ref ty, .int 1])), (s0, .inr (3, [.ref a0, .ref a1, .ref a2, .ref a3, .ref a4, .ref a5, .ref a6, .int 0, .ref a7, .ref a8, .ref a9, .ref a10, .ref a11, .int 0]))] s.heap.size = A at hD hAb ⊢
  have hA : ∀ q : Nat, s.heap.size ≤ q → A q := fun q h => by rw [← hAe]; exact Or.inr h
  have hS : va_S A s.heap s.heap [] := va_S.rf
  have hP : va_P D vwCl [(h0, .inr (5, [.ref s0, .ref de, .ref kl, .ref tl, .ref cu, .ref hk, .ref ca, .int 0, .int 0, .int (-1), .int 0, .int 0])), (kl, .inr (2, [.ref kx, .ref ky, .int 0])), (tl, .inr (4, [.ref tx, .ref ty, .int 1])), (s0, .inr (3, [.ref a0, .ref a1, .ref a2, .ref a3, .ref a4, .ref a5, .ref a6, .int 0, .ref a7, .ref a8, .ref a9, .ref a10, .ref a11, .int 0]))] s.heap := hP
  have hl := lv_entry ([.ref h0, .int p0]) (n := 2) (Nat.le_of_ble_eq_true rfl)
  rw [lg_entry_eq]
  generalize (lg_sl ([.ref h0, .int p0]) ++ List.replicate (2 - (lg_sl ([.ref h0, .int p0])).length) Slot.unset).toArray = ls at hl ⊢
  have hl : lv_has ls 2 [(0, .ref h0), (1, .int p0)] := hl
  refine lv_aload_n hx hb dX5_shut_0 rfl (lv_at hl 0 rfl) ?_
  have hPc := hP.sub (ws' := [(h0, .inr (5, [.ref s0, .ref de, .ref kl, .ref tl, .ref cu, .ref hk, .ref ca, .int 0, .int 0, .int (-1), .int 0, .int 0])), (kl, .inr (2, [.ref kx, .ref ky, .int 0])), (tl, .inr (4, [.ref tx, .ref ty, .int 1]))]) [0, 1, 2] rfl
  have hDc := hD.sub (ws' := [(h0, .inr (5, [.ref s0, .ref de, .ref kl, .ref tl, .ref cu, .ref hk, .ref ca, .int 0, .int 0, .int (-1), .int 0, .int 0])), (kl, .inr (2, [.ref kx, .ref ky, .int 0])), (tl, .inr (4, [.ref tx, .ref ty, .int 1]))]) [0, 1, 2] (by decide) rfl
  have hFc := va_free (wc := [(h0, .inr (5, [.ref s0, .ref de, .ref kl, .ref tl, .ref cu, .ref hk, .ref ca, .int 0, .int 0, .int (-1), .int 0, .int 0])), (kl, .inr (2, [.ref kx, .ref ky, .int 0])), (tl, .inr (4, [.ref tx, .ref ty, .int 1]))]) hD hS hA [0, 1, 2] rfl
  refine va_callv (va_runV (As := []) (rest := []) ⟨hx, hb, hml, hown, ht⟩ (k5_begin l D C b0 s.heap.size h0 s0 de kl tl cu hk ca kx ky tx ty) (cwV 0 ht (xg_V m_322 m_323 m_324 m_281 m_162) rfl rfl rfl (by decide +kernel) ⟨Nat.le_of_ble_eq_true rfl, Nat.le_of_ble_eq_true rfl⟩) ⟨xPc_bl, va_recv hK hPc (ci := 5) (q0 := 0) rfl rfl, xPc_at hPc hK hDc hE hS hAb⟩ rfl rfl hl.1 rfl (lv_room (Nat.le_of_ble_eq_true rfl)) dX5_shut_1 ⟨(by decide), (by decide)⟩) hS (fun q _ h => hFc q h) hFc (fun u_1 t H1 locs ht1 hvm hw hB hz1 hk1 hS => ?_)
  obtain ⟨hP1, hD1⟩ := hB
  rw [ht1] at hP1
  try dsimp only at hw
  obtain ⟨hP, hD⟩ := va_join (wr := [(s0, .inr (3, [.ref a0, .ref a1, .ref a2, .ref a3, .ref a4, .ref a5, .ref a6, .int 0, .ref a7, .ref a8, .ref a9, .ref a10, .ref a11, .int 0]))]) (w1 := [(h0, .inr (5, [.ref s0, .ref de, .ref kl, .ref tl, .ref cu, .ref hk, .ref ca, .int 0, .int 0, .int (-1), .int 0, .int 0])), (kl, .inr (2, [.ref kx, .ref ky, .int 0])), (tl, .inr (4, [.ref tx, .ref ty, .int 2]))]) hP hD [0, 1, 2] [3] rfl rfl (by decide) (by decide) hk1 hFc hP1 hD1
  generalize H1 = H at hP hS ⊢
  have hP : va_P D vwCl [(s0, .inr (3, [.ref a0, .ref a1, .ref a2, .ref a3, .ref a4, .ref a5, .ref a6, .int 0, .ref a7, .ref a8, .ref a9, .ref a10, .ref a11, .int 0])), (h0, .inr (5, [.ref s0, .ref de, .ref kl, .ref tl, .ref cu, .ref hk, .ref ca, .int 0, .int 0, .int (-1), .int 0, .int 0])), (kl, .inr (2, [.ref kx, .ref ky, .int 0])), (tl, .inr (4, [.ref tx, .ref ty, .int 2]))] H := hP
  have hD : va_D A [(s0, .inr (3, [.ref a0, .ref a1, .ref a2, .ref a3, .ref a4, .ref a5, .ref a6, .int 0, .ref a7, .ref a8, .ref a9, .ref a10, .ref a11, .int 0])), (h0, .inr (5, [.ref s0, .ref de, .ref kl, .ref tl, .ref cu, .ref hk, .ref ca, .int 0, .int 0, .int (-1), .int 0, .int 0])), (kl, .inr (2, [.ref kx, .ref ky, .int 0])), (tl, .inr (4, [.ref tx, .ref ty, .int 2]))] := hD
  have hq_1 := hw
  refine lv_aload_n hx hb dX5_shut_4 rfl (lv_at hl 0 rfl) ?_
  refine lv_iload_n hx hb dX5_shut_5 rfl (lv_at hl 1 rfl) ?_
  have hPc := hP.sub (ws' := [(h0, .inr (5, [.ref s0, .ref de, .ref kl, .ref tl, .ref cu, .ref hk, .ref ca, .int 0, .int 0, .int (-1), .int 0, .int 0])), (s0, .inr (3, [.ref a0, .ref a1, .ref a2, .ref a3, .ref a4, .ref a5, .ref a6, .int 0, .ref a7, .ref a8, .ref a9, .ref a10, .ref a11, .int 0]))]) [1, 0] rfl
  have hDc := hD.sub (ws' := [(h0, .inr (5, [.ref s0, .ref de, .ref kl, .ref tl, .ref cu, .ref hk, .ref ca, .int 0, .int 0, .int (-1), .int 0, .int 0])), (s0, .inr (3, [.ref a0, .ref a1, .ref a2, .ref a3, .ref a4, .ref a5, .ref a6, .int 0, .ref a7, .ref a8, .ref a9, .ref a10, .ref a11, .int 0]))]) [1, 0] (by decide) rfl
  have hFc := va_free (wc := [(h0, .inr (5, [.ref s0, .ref de, .ref kl, .ref tl, .ref cu, .ref hk, .ref ca, .int 0, .int 0, .int (-1), .int 0, .int 0])), (s0, .inr (3, [.ref a0, .ref a1, .ref a2, .ref a3, .ref a4, .ref a5, .ref a6, .int 0, .ref a7, .ref a8, .ref a9, .ref a10, .ref a11, .int 0]))]) hD hS hA [1, 0] rfl
  refine vx_callv (vx_runV (As := [.int p0]) (rest := []) ⟨hx, hb, hml, hown, ht⟩ (k5_requireObject l hl0 D C b0 H.size h0 s0 de kl tl cu hk ca a0 a1 a2 a3 a4 a5 a6 a7 a8 a9 a10 a11 p0) (cwV 1 ht (xg_V m_278 m_279 m_280 m_281 m_163) rfl rfl rfl (by decide +kernel) ⟨Nat.le_of_ble_eq_true rfl, Nat.le_of_ble_eq_true rfl⟩) ⟨xPc_bl, va_recv hK hPc (ci := 5) (q0 := 0) rfl rfl, xPc_at hPc hK hDc hE hS hAb⟩ rfl rfl hl.1 rfl (lv_room (Nat.le_of_ble_eq_true rfl)) dX5_shut_6 ⟨(by decide), (by decide)⟩) hS (fun q _ h => hFc q h) hFc (fun q _ h => hFc q h) (fun E ce q9 u9 t9 H9 locs9 e9 v9 p9 b9 z9 k9 hS9 hc9 hn9 hf9 => ?_) (fun u_2 t H1 locs ht1 hvm hw hB hz1 hk1 hS => ?_)
  · skip
    obtain rfl := b9
    exact vx_out (mc := 3) (ms := 18) (fun x hx => (htab x hx).elim) hlocks hc9 hn9 hf9 (fun t ht1 hW1 => ⟨(), by first | exact p9 | trivial | assumption | (simp_all; done), rfl, hS9.F ht1⟩) hS9.2.2 (by decide) (by decide)
  · exact hw.elim
set_option maxHeartbeats 4000000 in
set_option maxRecDepth 100000 in
theorem k5_level (l : Launch) (hl0 : l.stackTraces = false) (D : va_G) (C : Nat → ClassId) (b0 sz : Nat) (h0 : Nat) (s0 : Nat) (de : Nat) (kl : Nat) (tl : Nat) (cu : Nat) (hk : Nat) (ca : Nat) (kx : Nat) (ky : Nat) (tx : Nat) (ty : Nat) (a0 : Nat) (a1 : Nat) (a2 : Nat) (a3 : Nat) (a4 : Nat) (a5 : Nat) (a6 : Nat) (a7 : Nat) (a8 : Nat) (a9 : Nat) (a10 : Nat) (a11 : Nat) (p0 : Int32) (p1 : Int32) (p2 : Int32) : vx_Met l yX5_level (xw yX5_level cX5_level 4 (some .boolean)) ({ frames := 48, cells := 3, slots := 18, locals := 900 }) (xPc D C b0 [.ref h0, .int p0, .int p1, .int p2] [(h0, .inr (5, [.ref s0, .ref de, .ref kl, .ref tl, .ref cu, .ref hk, .ref ca, .int 0, .int 0, .int (-1), .int 0, .int 0])), (kl, .inr (2, [.ref kx, .ref ky, .int 0])), (tl, .inr (4, [.ref tx, .ref ty, .int 1])), (s0, .inr (3, [.ref a0, .ref a1, .ref a2, .ref a3, .ref a4, .ref a5, .ref a6, .int 0, .ref a7, .ref a8, .ref a9, .ref a10, .ref a11, .int 0]))] sz) (va_Qi (fun (r : Int32) (u : xS) => False) (xBw D (va_A [(h0, .inr (5, [.ref s0, .ref de, .ref kl, .ref tl, .ref cu, .ref hk, .ref ca, .int 0, .int 0, .int (-1), .int 0, .int 0])), (kl, .inr (2, [.ref kx, .ref ky, .int 0])), (tl, .inr (4, [.ref tx, .ref ty, .int 1])), (s0, .inr (3, [.ref a0, .ref a1, .ref a2, .ref a3, .ref a4, .ref a5, .ref a6, .int 0, .ref a7, .ref a8, .ref a9, .ref a10, .ref a11, .int 0]))] sz) (fun u => [])) (va_A [(h0, .inr (5, [.ref s0, .ref de, .ref kl, .ref tl, .ref cu, .ref hk, .ref ca, .int 0, .int 0, .int (-1), .int 0, .int 0])), (kl, .inr (2, [.ref kx, .ref ky, .int 0])), (tl, .inr (4, [.ref tx, .ref ty, .int 1])), (s0, .inr (3, [.ref a0, .ref a1, .ref a2, .ref a3, .ref a4, .ref a5, .ref a6, .int 0, .ref a7, .ref a8, .ref a9, .ref a10, .ref a11, .int 0]))] sz)) (xX xIAE (True) (va_A [(h0, .inr (5, [.ref s0, .ref de, .ref kl, .ref tl, .ref cu, .ref hk, .ref ca, .int 0, .int 0, .int (-1), .int 0, .int 0])), (kl, .inr (2, [.ref kx, .ref ky, .int 0])), (tl, .inr (4, [.ref tx, .ref ty, .int 1])), (s0, .inr (3, [.ref a0, .ref a1, .ref a2, .ref a3, .ref a4, .ref a5, .ref a6, .int 0, .ref a7, .ref a8, .ref a9, .ref a10, .ref a11, .int 0]))] sz)) 3 18 (va_A [(h0, .inr (5, [.ref s0, .ref de, .ref kl, .ref tl, .ref cu, .ref hk, .ref ca, .int 0, .int 0, .int (-1), .int 0, .int 0])), (kl, .inr (2, [.ref kx, .ref ky, .int 0])), (tl, .inr (4, [.ref tx, .ref ty, .int 1])), (s0, .inr (3, [.ref a0, .ref a1, .ref a2, .ref a3, .ref a4, .ref a5, .ref a6, .int 0, .ref a7, .ref a8, .ref a9, .ref a10, .ref a11, .int 0]))] sz) := by
  refine vx_ofW (cc := cX5_level) (maxL := 4) (ret := (some .boolean)) (by decide) rfl ?_
  intro p e s m args below meth c s₁ B hml htab hv
  obtain ⟨rfl, hsz, hP, hK, hD0, hE⟩ := hv
  have hx := B.exec
  have hb := B.bytes
  have hr := B.returns
  have ht : ∀ w ∈ xb, w.before _ s = true := fun w h => atoms_spec (ws := xw yX5_level cX5_level 4 (some .boolean)) B.pre w (List.mem_cons_of_mem _ h)
  have hown : s.vm.findClass RX5 = some m.cls := findClass_of_methodNamed B.named
  have hlocks := B.notSynchronized
  subst hsz
  have hAb := x_Ab hD0 hE.1
  have hD := hD0.self (sz := s.heap.size)
  generalize hAe : va_A [(h0, .inr (5, [.ref s0, .ref de, .ref kl, .ref tl, .ref cu, .ref hk, .ref ca, .int 0, .int 0, .int (-1), .int 0, .int 0])), (kl, .inr (2, [.ref kx, .ref ky, .int 0])), (tl, .inr (4, [.ref tx, .ref ty, .int 1])), (s0, .inr (3, [.ref a0, .ref a1, .ref a2, .ref a3, .ref a4, .ref a5, .ref a6, .int 0, .ref a7, .ref a8, .ref a9, .ref a10, .ref a11, .int 0]))] s.heap.size = A at hD hAb ⊢
  have hA : ∀ q : Nat, s.heap.size ≤ q → A q := fun q h => by rw [← hAe]; exact Or.inr h
  have hS : va_S A s.heap s.heap [] := va_S.rf
  have hP : va_P D vwCl [(h0, .inr (5, [.ref s0, .ref de, .ref kl, .ref tl, .ref cu, .ref hk, .ref ca, .int 0, .int 0, .int (-1), .int 0, .int 0])), (kl, .inr (2, [.ref kx, .ref ky, .int 0])), (tl, .inr (4, [.ref tx, .ref ty, .int 1])), (s0, .inr (3, [.ref a0, .ref a1, .ref a2, .ref a3, .ref a4, .ref a5, .ref a6, .int 0, .ref a7, .ref a8, .ref a9, .ref a10, .ref a11, .int 0]))] s.heap := hP
  have hl := lv_entry ([.ref h0, .int p0, .int p1, .int p2]) (n := 4) (Nat.le_of_ble_eq_true rfl)
  rw [lg_entry_eq]
  generalize (lg_sl ([.ref h0, .int p0, .int p1, .int p2]) ++ List.replicate (4 - (lg_sl ([.ref h0, .int p0, .int p1, .int p2])).length) Slot.unset).toArray = ls at hl ⊢
  have hl : lv_has ls 4 [(0, .ref h0), (1, .int p0), (2, .int p1), (3, .int p2)] := hl
  refine lv_aload_n hx hb dX5_level_0 rfl (lv_at hl 0 rfl) ?_
  have hPc := hP.sub (ws' := [(h0, .inr (5, [.ref s0, .ref de, .ref kl, .ref tl, .ref cu, .ref hk, .ref ca, .int 0, .int 0, .int (-1), .int 0, .int 0])), (kl, .inr (2, [.ref kx, .ref ky, .int 0])), (tl, .inr (4, [.ref tx, .ref ty, .int 1]))]) [0, 1, 2] rfl
  have hDc := hD.sub (ws' := [(h0, .inr (5, [.ref s0, .ref de, .ref kl, .ref tl, .ref cu, .ref hk, .ref ca, .int 0, .int 0, .int (-1), .int 0, .int 0])), (kl, .inr (2, [.ref kx, .ref ky, .int 0])), (tl, .inr (4, [.ref tx, .ref ty, .int 1]))]) [0, 1, 2] (by decide) rfl
  have hFc := va_free (wc := [(h0, .inr (5, [.ref s0, .ref de, .ref kl, .ref tl, .ref cu, .ref hk, .ref ca, .int 0, .int 0, .int (-1), .int 0, .int 0])), (kl, .inr (2, [.ref kx, .ref ky, .int 0])), (tl, .inr (4, [.ref tx, .ref ty, .int 1]))]) hD hS hA [0, 1, 2] rfl
  refine va_callv (va_runV (As := []) (rest := []) ⟨hx, hb, hml, hown, ht⟩ (k5_begin l D C b0 s.heap.size h0 s0 de kl tl cu hk ca kx ky tx ty) (cwV 0 ht (xg_V m_322 m_323 m_324 m_281 m_162) rfl rfl rfl (by decide +kernel) ⟨Nat.le_of_ble_eq_true rfl, Nat.le_of_ble_eq_true rfl⟩) ⟨xPc_bl, va_recv hK hPc (ci := 5) (q0 := 0) rfl rfl, xPc_at hPc hK hDc hE hS hAb⟩ rfl rfl hl.1 rfl (lv_room (Nat.le_of_ble_eq_true rfl)) dX5_level_1 ⟨(by decide), (by decide)⟩) hS (fun q _ h => hFc q h) hFc (fun u_1 t H1 locs ht1 hvm hw hB hz1 hk1 hS => ?_)
  obtain ⟨hP1, hD1⟩ := hB
  rw [ht1] at hP1
  try dsimp only at hw
  obtain ⟨hP, hD⟩ := va_join (wr := [(s0, .inr (3, [.ref a0, .ref a1, .ref a2, .ref a3, .ref a4, .ref a5, .ref a6, .int 0, .ref a7, .ref a8, .ref a9, .ref a10, .ref a11, .int 0]))]) (w1 := [(h0, .inr (5, [.ref s0, .ref de, .ref kl, .ref tl, .ref cu, .ref hk, .ref ca, .int 0, .int 0, .int (-1), .int 0, .int 0])), (kl, .inr (2, [.ref kx, .ref ky, .int 0])), (tl, .inr (4, [.ref tx, .ref ty, .int 2]))]) hP hD [0, 1, 2] [3] rfl rfl (by decide) (by decide) hk1 hFc hP1 hD1
  generalize H1 = H at hP hS ⊢
  have hP : va_P D vwCl [(s0, .inr (3, [.ref a0, .ref a1, .ref a2, .ref a3, .ref a4, .ref a5, .ref a6, .int 0, .ref a7, .ref a8, .ref a9, .ref a10, .ref a11, .int 0])), (h0, .inr (5, [.ref s0, .ref de, .ref kl, .ref tl, .ref cu, .ref hk, .ref ca, .int 0, .int 0, .int (-1), .int 0, .int 0])), (kl, .inr (2, [.ref kx, .ref ky, .int 0])), (tl, .inr (4, [.ref tx, .ref ty, .int 2]))] H := hP
  have hD : va_D A [(s0, .inr (3, [.ref a0, .ref a1, .ref a2, .ref a3, .ref a4, .ref a5, .ref a6, .int 0, .ref a7, .ref a8, .ref a9, .ref a10, .ref a11, .int 0])), (h0, .inr (5, [.ref s0, .ref de, .ref kl, .ref tl, .ref cu, .ref hk, .ref ca, .int 0, .int 0, .int (-1), .int 0, .int 0])), (kl, .inr (2, [.ref kx, .ref ky, .int 0])), (tl, .inr (4, [.ref tx, .ref ty, .int 2]))] := hD
  have hq_1 := hw
  refine lv_aload_n hx hb dX5_level_4 rfl (lv_at hl 0 rfl) ?_
  refine lv_iload_n hx hb dX5_level_5 rfl (lv_at hl 1 rfl) ?_
  have hPc := hP.sub (ws' := [(h0, .inr (5, [.ref s0, .ref de, .ref kl, .ref tl, .ref cu, .ref hk, .ref ca, .int 0, .int 0, .int (-1), .int 0, .int 0])), (s0, .inr (3, [.ref a0, .ref a1, .ref a2, .ref a3, .ref a4, .ref a5, .ref a6, .int 0, .ref a7, .ref a8, .ref a9, .ref a10, .ref a11, .int 0]))]) [1, 0] rfl
  have hDc := hD.sub (ws' := [(h0, .inr (5, [.ref s0, .ref de, .ref kl, .ref tl, .ref cu, .ref hk, .ref ca, .int 0, .int 0, .int (-1), .int 0, .int 0])), (s0, .inr (3, [.ref a0, .ref a1, .ref a2, .ref a3, .ref a4, .ref a5, .ref a6, .int 0, .ref a7, .ref a8, .ref a9, .ref a10, .ref a11, .int 0]))]) [1, 0] (by decide) rfl
  have hFc := va_free (wc := [(h0, .inr (5, [.ref s0, .ref de, .ref kl, .ref tl, .ref cu, .ref hk, .ref ca, .int 0, .int 0, .int (-1), .int 0, .int 0])), (s0, .inr (3, [.ref a0, .ref a1, .ref a2, .ref a3, .ref a4, .ref a5, .ref a6, .int 0, .ref a7, .ref a8, .ref a9, .ref a10, .ref a11, .int 0]))]) hD hS hA [1, 0] rfl
  refine vx_callv (vx_runV (As := [.int p0]) (rest := []) ⟨hx, hb, hml, hown, ht⟩ (k5_requireObject l hl0 D C b0 H.size h0 s0 de kl tl cu hk ca a0 a1 a2 a3 a4 a5 a6 a7 a8 a9 a10 a11 p0) (cwV 1 ht (xg_V m_278 m_279 m_280 m_281 m_163) rfl rfl rfl (by decide +kernel) ⟨Nat.le_of_ble_eq_true rfl, Nat.le_of_ble_eq_true rfl⟩) ⟨xPc_bl, va_recv hK hPc (ci := 5) (q0 := 0) rfl rfl, xPc_at hPc hK hDc hE hS hAb⟩ rfl rfl hl.1 rfl (lv_room (Nat.le_of_ble_eq_true rfl)) dX5_level_6 ⟨(by decide), (by decide)⟩) hS (fun q _ h => hFc q h) hFc (fun q _ h => hFc q h) (fun E ce q9 u9 t9 H9 locs9 e9 v9 p9 b9 z9 k9 hS9 hc9 hn9 hf9 => ?_) (fun u_2 t H1 locs ht1 hvm hw hB hz1 hk1 hS => ?_)
  · skip
    obtain rfl := b9
    exact vx_out (mc := 3) (ms := 18) (fun x hx => (htab x hx).elim) hlocks hc9 hn9 hf9 (fun t ht1 hW1 => ⟨(), by first | exact p9 | trivial | assumption | (simp_all; done), rfl, hS9.F ht1⟩) hS9.2.2 (by decide) (by decide)
  · exact hw.elim
set_option maxHeartbeats 4000000 in
set_option maxRecDepth 100000 in
theorem k5_assign (l : Launch) (hl0 : l.stackTraces = false) (D : va_G) (C : Nat → ClassId) (b0 sz : Nat) (h0 : Nat) (s0 : Nat) (de : Nat) (kl : Nat) (tl : Nat) (cu : Nat) (hk : Nat) (ca : Nat) (kx : Nat) (ky : Nat) (tx : Nat) (ty : Nat) (a0 : Nat) (a1 : Nat) (a2 : Nat) (a3 : Nat) (a4 : Nat) (a5 : Nat) (a6 : Nat) (a7 : Nat) (a8 : Nat) (a9 : Nat) (a10 : Nat) (a11 : Nat) (p0 : Int32) (p1 : Int32) : vx_Met l yX5_assign (xw yX5_assign cX5_assign 3 (some .int)) ({ frames := 48, cells := 3, slots := 18, locals := 900 }) (xPc D C b0 [.ref h0, .int p0, .int p1] [(h0, .inr (5, [.ref s0, .ref de, .ref kl, .ref tl, .ref cu, .ref hk, .ref ca, .int 0, .int 0, .int (-1), .int 0, .int 0])), (kl, .inr (2, [.ref kx, .ref ky, .int 0])), (tl, .inr (4, [.ref tx, .ref ty, .int 1])), (s0, .inr (3, [.ref a0, .ref a1, .ref a2, .ref a3, .ref a4, .ref a5, .ref a6, .int 0, .ref a7, .ref a8, .ref a9, .ref a10, .ref a11, .int 0]))] sz) (va_Qi (fun (r : Int32) (u : xS) => False) (xBw D (va_A [(h0, .inr (5, [.ref s0, .ref de, .ref kl, .ref tl, .ref cu, .ref hk, .ref ca, .int 0, .int 0, .int (-1), .int 0, .int 0])), (kl, .inr (2, [.ref kx, .ref ky, .int 0])), (tl, .inr (4, [.ref tx, .ref ty, .int 1])), (s0, .inr (3, [.ref a0, .ref a1, .ref a2, .ref a3, .ref a4, .ref a5, .ref a6, .int 0, .ref a7, .ref a8, .ref a9, .ref a10, .ref a11, .int 0]))] sz) (fun u => [])) (va_A [(h0, .inr (5, [.ref s0, .ref de, .ref kl, .ref tl, .ref cu, .ref hk, .ref ca, .int 0, .int 0, .int (-1), .int 0, .int 0])), (kl, .inr (2, [.ref kx, .ref ky, .int 0])), (tl, .inr (4, [.ref tx, .ref ty, .int 1])), (s0, .inr (3, [.ref a0, .ref a1, .ref a2, .ref a3, .ref a4, .ref a5, .ref a6, .int 0, .ref a7, .ref a8, .ref a9, .ref a10, .ref a11, .int 0]))] sz)) (xX xIAE (True) (va_A [(h0, .inr (5, [.ref s0, .ref de, .ref kl, .ref tl, .ref cu, .ref hk, .ref ca, .int 0, .int 0, .int (-1), .int 0, .int 0])), (kl, .inr (2, [.ref kx, .ref ky, .int 0])), (tl, .inr (4, [.ref tx, .ref ty, .int 1])), (s0, .inr (3, [.ref a0, .ref a1, .ref a2, .ref a3, .ref a4, .ref a5, .ref a6, .int 0, .ref a7, .ref a8, .ref a9, .ref a10, .ref a11, .int 0]))] sz)) 3 18 (va_A [(h0, .inr (5, [.ref s0, .ref de, .ref kl, .ref tl, .ref cu, .ref hk, .ref ca, .int 0, .int 0, .int (-1), .int 0, .int 0])), (kl, .inr (2, [.ref kx, .ref ky, .int 0])), (tl, .inr (4, [.ref tx, .ref ty, .int 1])), (s0, .inr (3, [.ref a0, .ref a1, .ref a2, .ref a3, .ref a4, .ref a5, .ref a6, .int 0, .ref a7, .ref a8, .ref a9, .ref a10, .ref a11, .int 0]))] sz) := by
  refine vx_ofW (cc := cX5_assign) (maxL := 3) (ret := (some .int)) (by decide) rfl ?_
  intro p e s m args below meth c s₁ B hml htab hv
  obtain ⟨rfl, hsz, hP, hK, hD0, hE⟩ := hv
  have hx := B.exec
  have hb := B.bytes
  have hr := B.returns
  have ht : ∀ w ∈ xb, w.before _ s = true := fun w h => atoms_spec (ws := xw yX5_assign cX5_assign 3 (some .int)) B.pre w (List.mem_cons_of_mem _ h)
  have hown : s.vm.findClass RX5 = some m.cls := findClass_of_methodNamed B.named
  have hlocks := B.notSynchronized
  subst hsz
  have hAb := x_Ab hD0 hE.1
  have hD := hD0.self (sz := s.heap.size)
  generalize hAe : va_A [(h0, .inr (5, [.ref s0, .ref de, .ref kl, .ref tl, .ref cu, .ref hk, .ref ca, .int 0, .int 0, .int (-1), .int 0, .int 0])), (kl, .inr (2, [.ref kx, .ref ky, .int 0])), (tl, .inr (4, [.ref tx, .ref ty, .int 1])), (s0, .inr (3, [.ref a0, .ref a1, .ref a2, .ref a3, .ref a4, .ref a5, .ref a6, .int 0, .ref a7, .ref a8, .ref a9, .ref a10, .ref a11, .int 0]))] s.heap.size = A at hD hAb ⊢
  have hA : ∀ q : Nat, s.heap.size ≤ q → A q := fun q h => by rw [← hAe]; exact Or.inr h
  have hS : va_S A s.heap s.heap [] := va_S.rf
  have hP : va_P D vwCl [(h0, .inr (5, [.ref s0, .ref de, .ref kl, .ref tl, .ref cu, .ref hk, .ref ca, .int 0, .int 0, .int (-1), .int 0, .int 0])), (kl, .inr (2, [.ref kx, .ref ky, .int 0])), (tl, .inr (4, [.ref tx, .ref ty, .int 1])), (s0, .inr (3, [.ref a0, .ref a1, .ref a2, .ref a3, .ref a4, .ref a5, .ref a6, .int 0, .ref a7, .ref a8, .ref a9, .ref a10, .ref a11, .int 0]))] s.heap := hP
  have hl := lv_entry ([.ref h0, .int p0, .int p1]) (n := 3) (Nat.le_of_ble_eq_true rfl)
  rw [lg_entry_eq]
  generalize (lg_sl ([.ref h0, .int p0, .int p1]) ++ List.replicate (3 - (lg_sl ([.ref h0, .int p0, .int p1])).length) Slot.unset).toArray = ls at hl ⊢
  have hl : lv_has ls 3 [(0, .ref h0), (1, .int p0), (2, .int p1)] := hl
  refine lv_aload_n hx hb dX5_assign_0 rfl (lv_at hl 0 rfl) ?_
  have hPc := hP.sub (ws' := [(h0, .inr (5, [.ref s0, .ref de, .ref kl, .ref tl, .ref cu, .ref hk, .ref ca, .int 0, .int 0, .int (-1), .int 0, .int 0])), (kl, .inr (2, [.ref kx, .ref ky, .int 0])), (tl, .inr (4, [.ref tx, .ref ty, .int 1]))]) [0, 1, 2] rfl
  have hDc := hD.sub (ws' := [(h0, .inr (5, [.ref s0, .ref de, .ref kl, .ref tl, .ref cu, .ref hk, .ref ca, .int 0, .int 0, .int (-1), .int 0, .int 0])), (kl, .inr (2, [.ref kx, .ref ky, .int 0])), (tl, .inr (4, [.ref tx, .ref ty, .int 1]))]) [0, 1, 2] (by decide) rfl
  have hFc := va_free (wc := [(h0, .inr (5, [.ref s0, .ref de, .ref kl, .ref tl, .ref cu, .ref hk, .ref ca, .int 0, .int 0, .int (-1), .int 0, .int 0])), (kl, .inr (2, [.ref kx, .ref ky, .int 0])), (tl, .inr (4, [.ref tx, .ref ty, .int 1]))]) hD hS hA [0, 1, 2] rfl
  refine va_callv (va_runV (As := []) (rest := []) ⟨hx, hb, hml, hown, ht⟩ (k5_begin l D C b0 s.heap.size h0 s0 de kl tl cu hk ca kx ky tx ty) (cwV 0 ht (xg_V m_322 m_323 m_324 m_281 m_162) rfl rfl rfl (by decide +kernel) ⟨Nat.le_of_ble_eq_true rfl, Nat.le_of_ble_eq_true rfl⟩) ⟨xPc_bl, va_recv hK hPc (ci := 5) (q0 := 0) rfl rfl, xPc_at hPc hK hDc hE hS hAb⟩ rfl rfl hl.1 rfl (lv_room (Nat.le_of_ble_eq_true rfl)) dX5_assign_1 ⟨(by decide), (by decide)⟩) hS (fun q _ h => hFc q h) hFc (fun u_1 t H1 locs ht1 hvm hw hB hz1 hk1 hS => ?_)
  obtain ⟨hP1, hD1⟩ := hB
  rw [ht1] at hP1
  try dsimp only at hw
  obtain ⟨hP, hD⟩ := va_join (wr := [(s0, .inr (3, [.ref a0, .ref a1, .ref a2, .ref a3, .ref a4, .ref a5, .ref a6, .int 0, .ref a7, .ref a8, .ref a9, .ref a10, .ref a11, .int 0]))]) (w1 := [(h0, .inr (5, [.ref s0, .ref de, .ref kl, .ref tl, .ref cu, .ref hk, .ref ca, .int 0, .int 0, .int (-1), .int 0, .int 0])), (kl, .inr (2, [.ref kx, .ref ky, .int 0])), (tl, .inr (4, [.ref tx, .ref ty, .int 2]))]) hP hD [0, 1, 2] [3] rfl rfl (by decide) (by decide) hk1 hFc hP1 hD1
  generalize H1 = H at hP hS ⊢
  have hP : va_P D vwCl [(s0, .inr (3, [.ref a0, .ref a1, .ref a2, .ref a3, .ref a4, .ref a5, .ref a6, .int 0, .ref a7, .ref a8, .ref a9, .ref a10, .ref a11, .int 0])), (h0, .inr (5, [.ref s0, .ref de, .ref kl, .ref tl, .ref cu, .ref hk, .ref ca, .int 0, .int 0, .int (-1), .int 0, .int 0])), (kl, .inr (2, [.ref kx, .ref ky, .int 0])), (tl, .inr (4, [.ref tx, .ref ty, .int 2]))] H := hP
  have hD : va_D A [(s0, .inr (3, [.ref a0, .ref a1, .ref a2, .ref a3, .ref a4, .ref a5, .ref a6, .int 0, .ref a7, .ref a8, .ref a9, .ref a10, .ref a11, .int 0])), (h0, .inr (5, [.ref s0, .ref de, .ref kl, .ref tl, .ref cu, .ref hk, .ref ca, .int 0, .int 0, .int (-1), .int 0, .int 0])), (kl, .inr (2, [.ref kx, .ref ky, .int 0])), (tl, .inr (4, [.ref tx, .ref ty, .int 2]))] := hD
  have hq_1 := hw
  refine lv_aload_n hx hb dX5_assign_4 rfl (lv_at hl 0 rfl) ?_
  refine lv_iload_n hx hb dX5_assign_5 rfl (lv_at hl 1 rfl) ?_
  have hPc := hP.sub (ws' := [(h0, .inr (5, [.ref s0, .ref de, .ref kl, .ref tl, .ref cu, .ref hk, .ref ca, .int 0, .int 0, .int (-1), .int 0, .int 0])), (s0, .inr (3, [.ref a0, .ref a1, .ref a2, .ref a3, .ref a4, .ref a5, .ref a6, .int 0, .ref a7, .ref a8, .ref a9, .ref a10, .ref a11, .int 0]))]) [1, 0] rfl
  have hDc := hD.sub (ws' := [(h0, .inr (5, [.ref s0, .ref de, .ref kl, .ref tl, .ref cu, .ref hk, .ref ca, .int 0, .int 0, .int (-1), .int 0, .int 0])), (s0, .inr (3, [.ref a0, .ref a1, .ref a2, .ref a3, .ref a4, .ref a5, .ref a6, .int 0, .ref a7, .ref a8, .ref a9, .ref a10, .ref a11, .int 0]))]) [1, 0] (by decide) rfl
  have hFc := va_free (wc := [(h0, .inr (5, [.ref s0, .ref de, .ref kl, .ref tl, .ref cu, .ref hk, .ref ca, .int 0, .int 0, .int (-1), .int 0, .int 0])), (s0, .inr (3, [.ref a0, .ref a1, .ref a2, .ref a3, .ref a4, .ref a5, .ref a6, .int 0, .ref a7, .ref a8, .ref a9, .ref a10, .ref a11, .int 0]))]) hD hS hA [1, 0] rfl
  refine vx_callv (vx_runV (As := [.int p0]) (rest := []) ⟨hx, hb, hml, hown, ht⟩ (k5_requireObject l hl0 D C b0 H.size h0 s0 de kl tl cu hk ca a0 a1 a2 a3 a4 a5 a6 a7 a8 a9 a10 a11 p0) (cwV 1 ht (xg_V m_278 m_279 m_280 m_281 m_163) rfl rfl rfl (by decide +kernel) ⟨Nat.le_of_ble_eq_true rfl, Nat.le_of_ble_eq_true rfl⟩) ⟨xPc_bl, va_recv hK hPc (ci := 5) (q0 := 0) rfl rfl, xPc_at hPc hK hDc hE hS hAb⟩ rfl rfl hl.1 rfl (lv_room (Nat.le_of_ble_eq_true rfl)) dX5_assign_6 ⟨(by decide), (by decide)⟩) hS (fun q _ h => hFc q h) hFc (fun q _ h => hFc q h) (fun E ce q9 u9 t9 H9 locs9 e9 v9 p9 b9 z9 k9 hS9 hc9 hn9 hf9 => ?_) (fun u_2 t H1 locs ht1 hvm hw hB hz1 hk1 hS => ?_)
  · skip
    obtain rfl := b9
    exact vx_out (mc := 3) (ms := 18) (fun x hx => (htab x hx).elim) hlocks hc9 hn9 hf9 (fun t ht1 hW1 => ⟨(), by first | exact p9 | trivial | assumption | (simp_all; done), rfl, hS9.F ht1⟩) hS9.2.2 (by decide) (by decide)
  · exact hw.elim
set_option maxHeartbeats 4000000 in
set_option maxRecDepth 100000 in
theorem k5_revoke (l : Launch) (hl0 : l.stackTraces = false) (D : va_G) (C : Nat → ClassId) (b0 sz : Nat) (h0 : Nat) (s0 : Nat) (de : Nat) (kl : Nat) (tl : Nat) (cu : Nat) (hk : Nat) (ca : Nat) (kx : Nat) (ky : Nat) (tx : Nat) (ty : Nat) (a0 : Nat) (a1 : Nat) (a2 : Nat) (a3 : Nat) (a4 : Nat) (a5 : Nat) (a6 : Nat) (a7 : Nat) (a8 : Nat) (a9 : Nat) (a10 : Nat) (a11 : Nat) (p0 : Int32) : vx_Met l yX5_revoke (xw yX5_revoke cX5_revoke 3 (some .boolean)) ({ frames := 48, cells := 3, slots := 18, locals := 900 }) (xPc D C b0 [.ref h0, .int p0] [(h0, .inr (5, [.ref s0, .ref de, .ref kl, .ref tl, .ref cu, .ref hk, .ref ca, .int 0, .int 0, .int (-1), .int 0, .int 0])), (kl, .inr (2, [.ref kx, .ref ky, .int 0])), (tl, .inr (4, [.ref tx, .ref ty, .int 1])), (s0, .inr (3, [.ref a0, .ref a1, .ref a2, .ref a3, .ref a4, .ref a5, .ref a6, .int 0, .ref a7, .ref a8, .ref a9, .ref a10, .ref a11, .int 0]))] sz) (va_Qi (fun (r : Int32) (u : xS) => False) (xBw D (va_A [(h0, .inr (5, [.ref s0, .ref de, .ref kl, .ref tl, .ref cu, .ref hk, .ref ca, .int 0, .int 0, .int (-1), .int 0, .int 0])), (kl, .inr (2, [.ref kx, .ref ky, .int 0])), (tl, .inr (4, [.ref tx, .ref ty, .int 1])), (s0, .inr (3, [.ref a0, .ref a1, .ref a2, .ref a3, .ref a4, .ref a5, .ref a6, .int 0, .ref a7, .ref a8, .ref a9, .ref a10, .ref a11, .int 0]))] sz) (fun u => [])) (va_A [(h0, .inr (5, [.ref s0, .ref de, .ref kl, .ref tl, .ref cu, .ref hk, .ref ca, .int 0, .int 0, .int (-1), .int 0, .int 0])), (kl, .inr (2, [.ref kx, .ref ky, .int 0])), (tl, .inr (4, [.ref tx, .ref ty, .int 1])), (s0, .inr (3, [.ref a0, .ref a1, .ref a2, .ref a3, .ref a4, .ref a5, .ref a6, .int 0, .ref a7, .ref a8, .ref a9, .ref a10, .ref a11, .int 0]))] sz)) (xX xIAE (True) (va_A [(h0, .inr (5, [.ref s0, .ref de, .ref kl, .ref tl, .ref cu, .ref hk, .ref ca, .int 0, .int 0, .int (-1), .int 0, .int 0])), (kl, .inr (2, [.ref kx, .ref ky, .int 0])), (tl, .inr (4, [.ref tx, .ref ty, .int 1])), (s0, .inr (3, [.ref a0, .ref a1, .ref a2, .ref a3, .ref a4, .ref a5, .ref a6, .int 0, .ref a7, .ref a8, .ref a9, .ref a10, .ref a11, .int 0]))] sz)) 3 18 (va_A [(h0, .inr (5, [.ref s0, .ref de, .ref kl, .ref tl, .ref cu, .ref hk, .ref ca, .int 0, .int 0, .int (-1), .int 0, .int 0])), (kl, .inr (2, [.ref kx, .ref ky, .int 0])), (tl, .inr (4, [.ref tx, .ref ty, .int 1])), (s0, .inr (3, [.ref a0, .ref a1, .ref a2, .ref a3, .ref a4, .ref a5, .ref a6, .int 0, .ref a7, .ref a8, .ref a9, .ref a10, .ref a11, .int 0]))] sz) := by
  refine vx_ofW (cc := cX5_revoke) (maxL := 3) (ret := (some .boolean)) (by decide) rfl ?_
  intro p e s m args below meth c s₁ B hml htab hv
  obtain ⟨rfl, hsz, hP, hK, hD0, hE⟩ := hv
  have hx := B.exec
  have hb := B.bytes
  have hr := B.returns
  have ht : ∀ w ∈ xb, w.before _ s = true := fun w h => atoms_spec (ws := xw yX5_revoke cX5_revoke 3 (some .boolean)) B.pre w (List.mem_cons_of_mem _ h)
  have hown : s.vm.findClass RX5 = some m.cls := findClass_of_methodNamed B.named
  have hlocks := B.notSynchronized
  subst hsz
  have hAb := x_Ab hD0 hE.1
  have hD := hD0.self (sz := s.heap.size)
  generalize hAe : va_A [(h0, .inr (5, [.ref s0, .ref de, .ref kl, .ref tl, .ref cu, .ref hk, .ref ca, .int 0, .int 0, .int (-1), .int 0, .int 0])), (kl, .inr (2, [.ref kx, .ref ky, .int 0])), (tl, .inr (4, [.ref tx, .ref ty, .int 1])), (s0, .inr (3, [.ref a0, .ref a1, .ref a2, .ref a3, .ref a4, .ref a5, .ref a6, .int 0, .ref a7, .ref a8, .ref a9, .ref a10, .ref a11, .int 0]))] s.heap.size = A at hD hAb ⊢
  have hA : ∀ q : Nat, s.heap.size ≤ q → A q := fun q h => by rw [← hAe]; exact Or.inr h
  have hS : va_S A s.heap s.heap [] := va_S.rf
  have hP : va_P D vwCl [(h0, .inr (5, [.ref s0, .ref de, .ref kl, .ref tl, .ref cu, .ref hk, .ref ca, .int 0, .int 0, .int (-1), .int 0, .int 0])), (kl, .inr (2, [.ref kx, .ref ky, .int 0])), (tl, .inr (4, [.ref tx, .ref ty, .int 1])), (s0, .inr (3, [.ref a0, .ref a1, .ref a2, .ref a3, .ref a4, .ref a5, .ref a6, .int 0, .ref a7, .ref a8, .ref a9, .ref a10, .ref a11, .int 0]))] s.heap := hP
  have hl := lv_entry ([.ref h0, .int p0]) (n := 3) (Nat.le_of_ble_eq_true rfl)
  rw [lg_entry_eq]
  generalize (lg_sl ([.ref h0, .int p0]) ++ List.replicate (3 - (lg_sl ([.ref h0, .int p0])).length) Slot.unset).toArray = ls at hl ⊢
  have hl : lv_has ls 3 [(0, .ref h0), (1, .int p0)] := hl
  refine lv_aload_n hx hb dX5_revoke_0 rfl (lv_at hl 0 rfl) ?_
  have hPc := hP.sub (ws' := [(h0, .inr (5, [.ref s0, .ref de, .ref kl, .ref tl, .ref cu, .ref hk, .ref ca, .int 0, .int 0, .int (-1), .int 0, .int 0])), (kl, .inr (2, [.ref kx, .ref ky, .int 0])), (tl, .inr (4, [.ref tx, .ref ty, .int 1]))]) [0, 1, 2] rfl
  have hDc := hD.sub (ws' := [(h0, .inr (5, [.ref s0, .ref de, .ref kl, .ref tl, .ref cu, .ref hk, .ref ca, .int 0, .int 0, .int (-1), .int 0, .int 0])), (kl, .inr (2, [.ref kx, .ref ky, .int 0])), (tl, .inr (4, [.ref tx, .ref ty, .int 1]))]) [0, 1, 2] (by decide) rfl
  have hFc := va_free (wc := [(h0, .inr (5, [.ref s0, .ref de, .ref kl, .ref tl, .ref cu, .ref hk, .ref ca, .int 0, .int 0, .int (-1), .int 0, .int 0])), (kl, .inr (2, [.ref kx, .ref ky, .int 0])), (tl, .inr (4, [.ref tx, .ref ty, .int 1]))]) hD hS hA [0, 1, 2] rfl
  refine va_callv (va_runV (As := []) (rest := []) ⟨hx, hb, hml, hown, ht⟩ (k5_begin l D C b0 s.heap.size h0 s0 de kl tl cu hk ca kx ky tx ty) (cwV 0 ht (xg_V m_322 m_323 m_324 m_281 m_162) rfl rfl rfl (by decide +kernel) ⟨Nat.le_of_ble_eq_true rfl, Nat.le_of_ble_eq_true rfl⟩) ⟨xPc_bl, va_recv hK hPc (ci := 5) (q0 := 0) rfl rfl, xPc_at hPc hK hDc hE hS hAb⟩ rfl rfl hl.1 rfl (lv_room (Nat.le_of_ble_eq_true rfl)) dX5_revoke_1 ⟨(by decide), (by decide)⟩) hS (fun q _ h => hFc q h) hFc (fun u_1 t H1 locs ht1 hvm hw hB hz1 hk1 hS => ?_)
  obtain ⟨hP1, hD1⟩ := hB
  rw [ht1] at hP1
  try dsimp only at hw
  obtain ⟨hP, hD⟩ := va_join (wr := [(s0, .inr (3, [.ref a0, .ref a1, .ref a2, .ref a3, .ref a4, .ref a5, .ref a6, .int 0, .ref a7, .ref a8, .ref a9, .ref a10, .ref a11, .int 0]))]) (w1 := [(h0, .inr (5, [.ref s0, .ref de, .ref kl, .ref tl, .ref cu, .ref hk, .ref ca, .int 0, .int 0, .int (-1), .int 0, .int 0])), (kl, .inr (2, [.ref kx, .ref ky, .int 0])), (tl, .inr (4, [.ref tx, .ref ty, .int 2]))]) hP hD [0, 1, 2] [3] rfl rfl (by decide) (by decide) hk1 hFc hP1 hD1
  generalize H1 = H at hP hS ⊢
  have hP : va_P D vwCl [(s0, .inr (3, [.ref a0, .ref a1, .ref a2, .ref a3, .ref a4, .ref a5, .ref a6, .int 0, .ref a7, .ref a8, .ref a9, .ref a10, .ref a11, .int 0])), (h0, .inr (5, [.ref s0, .ref de, .ref kl, .ref tl, .ref cu, .ref hk, .ref ca, .int 0, .int 0, .int (-1), .int 0, .int 0])), (kl, .inr (2, [.ref kx, .ref ky, .int 0])), (tl, .inr (4, [.ref tx, .ref ty, .int 2]))] H := hP
  have hD : va_D A [(s0, .inr (3, [.ref a0, .ref a1, .ref a2, .ref a3, .ref a4, .ref a5, .ref a6, .int 0, .ref a7, .ref a8, .ref a9, .ref a10, .ref a11, .int 0])), (h0, .inr (5, [.ref s0, .ref de, .ref kl, .ref tl, .ref cu, .ref hk, .ref ca, .int 0, .int 0, .int (-1), .int 0, .int 0])), (kl, .inr (2, [.ref kx, .ref ky, .int 0])), (tl, .inr (4, [.ref tx, .ref ty, .int 2]))] := hD
  have hq_1 := hw
  refine lv_aload_n hx hb dX5_revoke_4 rfl (lv_at hl 0 rfl) ?_
  refine va_get (D := D) (ci := 5) (v := .ref s0) (C := RX5) (T := TX5) (N := 12) hx hb ht inX5 hown hK hP 1 rfl rfl 0 (by decide) (ht _ m_274) (fun _ h9 => h9) rfl dX5_revoke_5 ?_
  refine lv_iload_n hx hb dX5_revoke_8 rfl (lv_at hl 1 rfl) ?_
  have hPc := hP.sub (ws' := [(s0, .inr (3, [.ref a0, .ref a1, .ref a2, .ref a3, .ref a4, .ref a5, .ref a6, .int 0, .ref a7, .ref a8, .ref a9, .ref a10, .ref a11, .int 0]))]) [0] rfl
  have hDc := hD.sub (ws' := [(s0, .inr (3, [.ref a0, .ref a1, .ref a2, .ref a3, .ref a4, .ref a5, .ref a6, .int 0, .ref a7, .ref a8, .ref a9, .ref a10, .ref a11, .int 0]))]) [0] (by decide) rfl
  have hFc := va_free (wc := [(s0, .inr (3, [.ref a0, .ref a1, .ref a2, .ref a3, .ref a4, .ref a5, .ref a6, .int 0, .ref a7, .ref a8, .ref a9, .ref a10, .ref a11, .int 0]))]) hD hS hA [0] rfl
  refine va_calli (va_runV (As := [.int p0]) (rest := []) ⟨hx, hb, hml, hown, ht⟩ (k3_isProxy0 l D C b0 H.size s0 a0 a1 a2 a3 a4 a5 a6 a7 a8 a9 a10 a11 p0) (cwV 1 ht (xg_V m_343 m_344 m_345 m_258 m_160) rfl rfl rfl (by decide +kernel) ⟨Nat.le_of_ble_eq_true rfl, Nat.le_of_ble_eq_true rfl⟩) ⟨xPc_bl, va_recv hK hPc (ci := 3) (q0 := 0) rfl rfl, xPc_at hPc hK hDc hE hS hAb⟩ rfl rfl hl.1 rfl (lv_room (Nat.le_of_ble_eq_true rfl)) dX5_revoke_9 ⟨(by decide), (by decide)⟩) hS (fun q _ h => hFc q h) hFc (fun r_2 u_3 t H1 locs ht1 hvm hw hB hz1 hk1 hS => ?_)
  obtain ⟨hP1, hD1⟩ := hB
  rw [ht1] at hP1
  try dsimp only at hw
  obtain ⟨hP, hD⟩ := va_join (wr := [(h0, .inr (5, [.ref s0, .ref de, .ref kl, .ref tl, .ref cu, .ref hk, .ref ca, .int 0, .int 0, .int (-1), .int 0, .int 0])), (kl, .inr (2, [.ref kx, .ref ky, .int 0])), (tl, .inr (4, [.ref tx, .ref ty, .int 2]))]) (w1 := [(s0, .inr (3, [.ref a0, .ref a1, .ref a2, .ref a3, .ref a4, .ref a5, .ref a6, .int 0, .ref a7, .ref a8, .ref a9, .ref a10, .ref a11, .int 0]))]) hP hD [0] [1, 2, 3] rfl rfl (by decide) (by decide) hk1 hFc hP1 hD1
  generalize H1 = H at hP hS ⊢
  have hP : va_P D vwCl [(h0, .inr (5, [.ref s0, .ref de, .ref kl, .ref tl, .ref cu, .ref hk, .ref ca, .int 0, .int 0, .int (-1), .int 0, .int 0])), (kl, .inr (2, [.ref kx, .ref ky, .int 0])), (tl, .inr (4, [.ref tx, .ref ty, .int 2])), (s0, .inr (3, [.ref a0, .ref a1, .ref a2, .ref a3, .ref a4, .ref a5, .ref a6, .int 0, .ref a7, .ref a8, .ref a9, .ref a10, .ref a11, .int 0]))] H := hP
  have hD : va_D A [(h0, .inr (5, [.ref s0, .ref de, .ref kl, .ref tl, .ref cu, .ref hk, .ref ca, .int 0, .int 0, .int (-1), .int 0, .int 0])), (kl, .inr (2, [.ref kx, .ref ky, .int 0])), (tl, .inr (4, [.ref tx, .ref ty, .int 2])), (s0, .inr (3, [.ref a0, .ref a1, .ref a2, .ref a3, .ref a4, .ref a5, .ref a6, .int 0, .ref a7, .ref a8, .ref a9, .ref a10, .ref a11, .int 0]))] := hD
  have hq_9 := hw
  obtain rfl : r_2 = (0 : Int32) := hw
  refine lv_if_ne (tgt := 25) hx hb dX5_revoke_12 (by decide) (fun c_12 => ?_) (fun c_12 => ?_)
  · exact absurd c_12 (by decide)
  exact x_thrI (text := "no PROXY") (mc := 3) (ms := 18) hx hb hl0 hown ht hE hAb (by decide +kernel) hS (by rw [hml]; exact hl.1) dX5_revoke_15 dX5_revoke_18 dX5_revoke_19 dX5_revoke_21 dX5_revoke_24 htab (Nat.le_of_ble_eq_true rfl) (Nat.le_of_ble_eq_true rfl) (by decide) (by decide) hlocks (fun t hv1 hz1 hq1 => ⟨(), by first | trivial | assumption | (simp_all; done), rfl, x_F hS hz1 hq1⟩) hS.2.2 (by decide) (by decide)
set_option maxHeartbeats 4000000 in
set_option maxRecDepth 100000 in
theorem k5_key (l : Launch) (hl0 : l.stackTraces = false) (D : va_G) (C : Nat → ClassId) (b0 sz : Nat) (h0 : Nat) (s0 : Nat) (de : Nat) (kl : Nat) (tl : Nat) (cu : Nat) (hk : Nat) (ca : Nat) (kx : Nat) (ky : Nat) (tx : Nat) (ty : Nat) (a0 : Nat) (a1 : Nat) (a2 : Nat) (a3 : Nat) (a4 : Nat) (a5 : Nat) (a6 : Nat) (a7 : Nat) (a8 : Nat) (a9 : Nat) (a10 : Nat) (a11 : Nat) (p0 : Int32) : vx_Met l yX5_key (xw yX5_key cX5_key 2 (some .int)) ({ frames := 48, cells := 3, slots := 18, locals := 900 }) (xPc D C b0 [.ref h0, .int p0] [(h0, .inr (5, [.ref s0, .ref de, .ref kl, .ref tl, .ref cu, .ref hk, .ref ca, .int 0, .int 0, .int (-1), .int 0, .int 0])), (kl, .inr (2, [.ref kx, .ref ky, .int 0])), (tl, .inr (4, [.ref tx, .ref ty, .int 1])), (s0, .inr (3, [.ref a0, .ref a1, .ref a2, .ref a3, .ref a4, .ref a5, .ref a6, .int 0, .ref a7, .ref a8, .ref a9, .ref a10, .ref a11, .int 0]))] sz) (va_Qi (fun (r : Int32) (u : xS) => False) (xBw D (va_A [(h0, .inr (5, [.ref s0, .ref de, .ref kl, .ref tl, .ref cu, .ref hk, .ref ca, .int 0, .int 0, .int (-1), .int 0, .int 0])), (kl, .inr (2, [.ref kx, .ref ky, .int 0])), (tl, .inr (4, [.ref tx, .ref ty, .int 1])), (s0, .inr (3, [.ref a0, .ref a1, .ref a2, .ref a3, .ref a4, .ref a5, .ref a6, .int 0, .ref a7, .ref a8, .ref a9, .ref a10, .ref a11, .int 0]))] sz) (fun u => [])) (va_A [(h0, .inr (5, [.ref s0, .ref de, .ref kl, .ref tl, .ref cu, .ref hk, .ref ca, .int 0, .int 0, .int (-1), .int 0, .int 0])), (kl, .inr (2, [.ref kx, .ref ky, .int 0])), (tl, .inr (4, [.ref tx, .ref ty, .int 1])), (s0, .inr (3, [.ref a0, .ref a1, .ref a2, .ref a3, .ref a4, .ref a5, .ref a6, .int 0, .ref a7, .ref a8, .ref a9, .ref a10, .ref a11, .int 0]))] sz)) (xX xIOB (True) (va_A [(h0, .inr (5, [.ref s0, .ref de, .ref kl, .ref tl, .ref cu, .ref hk, .ref ca, .int 0, .int 0, .int (-1), .int 0, .int 0])), (kl, .inr (2, [.ref kx, .ref ky, .int 0])), (tl, .inr (4, [.ref tx, .ref ty, .int 1])), (s0, .inr (3, [.ref a0, .ref a1, .ref a2, .ref a3, .ref a4, .ref a5, .ref a6, .int 0, .ref a7, .ref a8, .ref a9, .ref a10, .ref a11, .int 0]))] sz)) 3 18 (va_A [(h0, .inr (5, [.ref s0, .ref de, .ref kl, .ref tl, .ref cu, .ref hk, .ref ca, .int 0, .int 0, .int (-1), .int 0, .int 0])), (kl, .inr (2, [.ref kx, .ref ky, .int 0])), (tl, .inr (4, [.ref tx, .ref ty, .int 1])), (s0, .inr (3, [.ref a0, .ref a1, .ref a2, .ref a3, .ref a4, .ref a5, .ref a6, .int 0, .ref a7, .ref a8, .ref a9, .ref a10, .ref a11, .int 0]))] sz) := by
  refine vx_ofW (cc := cX5_key) (maxL := 2) (ret := (some .int)) (by decide) rfl ?_
  intro p e s m args below meth c s₁ B hml htab hv
  obtain ⟨rfl, hsz, hP, hK, hD0, hE⟩ := hv
  have hx := B.exec
  have hb := B.bytes
  have hr := B.returns
  have ht : ∀ w ∈ xb, w.before _ s = true := fun w h => atoms_spec (ws := xw yX5_key cX5_key 2 (some .int)) B.pre w (List.mem_cons_of_mem _ h)
  have hown : s.vm.findClass RX5 = some m.cls := findClass_of_methodNamed B.named
  have hlocks := B.notSynchronized
  subst hsz
  have hAb := x_Ab hD0 hE.1
  have hD := hD0.self (sz := s.heap.size)
  generalize hAe : va_A [(h0, .inr (5, [.ref s0, .ref de, .ref kl, .ref tl, .ref cu, .ref hk, .ref ca, .int 0, .int 0, .int (-1), .int 0, .int 0])), (kl, .inr (2, [.ref kx, .ref ky, .int 0])), (tl, .inr (4, [.ref tx, .ref ty, .int 1])), (s0, .inr (3, [.ref a0, .ref a1, .ref a2, .ref a3, .ref a4, .ref a5, .ref a6, .int 0, .ref a7, .ref a8, .ref a9, .ref a10, .ref a11, .int 0]))] s.heap.size = A at hD hAb ⊢
  have hA : ∀ q : Nat, s.heap.size ≤ q → A q := fun q h => by rw [← hAe]; exact Or.inr h
  have hS : va_S A s.heap s.heap [] := va_S.rf
  have hP : va_P D vwCl [(h0, .inr (5, [.ref s0, .ref de, .ref kl, .ref tl, .ref cu, .ref hk, .ref ca, .int 0, .int 0, .int (-1), .int 0, .int 0])), (kl, .inr (2, [.ref kx, .ref ky, .int 0])), (tl, .inr (4, [.ref tx, .ref ty, .int 1])), (s0, .inr (3, [.ref a0, .ref a1, .ref a2, .ref a3, .ref a4, .ref a5, .ref a6, .int 0, .ref a7, .ref a8, .ref a9, .ref a10, .ref a11, .int 0]))] s.heap := hP
  have hl := lv_entry ([.ref h0, .int p0]) (n := 2) (Nat.le_of_ble_eq_true rfl)
  rw [lg_entry_eq]
  generalize (lg_sl ([.ref h0, .int p0]) ++ List.replicate (2 - (lg_sl ([.ref h0, .int p0])).length) Slot.unset).toArray = ls at hl ⊢
  have hl : lv_has ls 2 [(0, .ref h0), (1, .int p0)] := hl
  refine lv_iload_n hx hb dX5_key_0 rfl (lv_at hl 1 rfl) ?_
  refine lv_if_lt (tgt := 21) hx hb dX5_key_1 (by decide) (fun c_1 => ?_) (fun c_1 => ?_)
  · skip
    exact x_thrO (text := "no such one of THE KEYS") (mc := 3) (ms := 18) hx hb hl0 hown ht hE hAb (by decide +kernel) hS (by rw [hml]; exact hl.1) dX5_key_21 dX5_key_24 dX5_key_25 dX5_key_27 dX5_key_30 htab (Nat.le_of_ble_eq_true rfl) (Nat.le_of_ble_eq_true rfl) (by decide) (by decide) hlocks (fun t hv1 hz1 hq1 => ⟨(), by first | trivial | assumption | (simp_all; done), rfl, x_F hS hz1 hq1⟩) hS.2.2 (by decide) (by decide)
  · skip
    refine lv_iload_n hx hb dX5_key_4 rfl (lv_at hl 1 rfl) ?_
    refine lv_aload_n hx hb dX5_key_5 rfl (lv_at hl 0 rfl) ?_
    refine va_get (D := D) (ci := 5) (v := .int 0) (C := RX5) (T := TX5) (N := 12) hx hb ht inX5 hown hK hP 0 rfl rfl 7 (by decide) (ht _ m_346) (fun _ h9 => h9) rfl dX5_key_6 ?_
    refine lv_icmp_ge (tgt := 21) hx hb dX5_key_9 (by decide) (fun c_9 => ?_) (fun c_9 => ?_)
    · skip
      exact x_thrO (text := "no such one of THE KEYS") (mc := 3) (ms := 18) hx hb hl0 hown ht hE hAb (by decide +kernel) hS (by rw [hml]; exact hl.1) dX5_key_21 dX5_key_24 dX5_key_25 dX5_key_27 dX5_key_30 htab (Nat.le_of_ble_eq_true rfl) (Nat.le_of_ble_eq_true rfl) (by decide) (by decide) hlocks (fun t hv1 hz1 hq1 => ⟨(), by first | trivial | assumption | (simp_all; done), rfl, x_F hS hz1 hq1⟩) hS.2.2 (by decide) (by decide)
    · exact absurd (x_ge c_1) c_9
set_option maxHeartbeats 4000000 in
set_option maxRecDepth 100000 in
theorem k5_count (l : Launch) (hl0 : l.stackTraces = false) (D : va_G) (C : Nat → ClassId) (b0 sz : Nat) (h0 : Nat) (s0 : Nat) (de : Nat) (kl : Nat) (tl : Nat) (cu : Nat) (hk : Nat) (ca : Nat) (kx : Nat) (ky : Nat) (tx : Nat) (ty : Nat) (a0 : Nat) (a1 : Nat) (a2 : Nat) (a3 : Nat) (a4 : Nat) (a5 : Nat) (a6 : Nat) (a7 : Nat) (a8 : Nat) (a9 : Nat) (a10 : Nat) (a11 : Nat) (p0 : Int32) : vx_Met l yX5_count (xw yX5_count cX5_count 2 (some .int)) ({ frames := 48, cells := 3, slots := 18, locals := 900 }) (xPc D C b0 [.ref h0, .int p0] [(h0, .inr (5, [.ref s0, .ref de, .ref kl, .ref tl, .ref cu, .ref hk, .ref ca, .int 0, .int 0, .int (-1), .int 0, .int 0])), (kl, .inr (2, [.ref kx, .ref ky, .int 0])), (tl, .inr (4, [.ref tx, .ref ty, .int 1])), (s0, .inr (3, [.ref a0, .ref a1, .ref a2, .ref a3, .ref a4, .ref a5, .ref a6, .int 0, .ref a7, .ref a8, .ref a9, .ref a10, .ref a11, .int 0]))] sz) (va_Qi (fun (r : Int32) (u : xS) => (p0 = 0 ∨ p0 = 1 ∨ p0 = 2 ∨ p0 = 3) ∧ r = (if p0 = 3 then -1 else 0)) (xBw D (va_A [(h0, .inr (5, [.ref s0, .ref de, .ref kl, .ref tl, .ref cu, .ref hk, .ref ca, .int 0, .int 0, .int (-1), .int 0, .int 0])), (kl, .inr (2, [.ref kx, .ref ky, .int 0])), (tl, .inr (4, [.ref tx, .ref ty, .int 1])), (s0, .inr (3, [.ref a0, .ref a1, .ref a2, .ref a3, .ref a4, .ref a5, .ref a6, .int 0, .ref a7, .ref a8, .ref a9, .ref a10, .ref a11, .int 0]))] sz) (fun u => [])) (va_A [(h0, .inr (5, [.ref s0, .ref de, .ref kl, .ref tl, .ref cu, .ref hk, .ref ca, .int 0, .int 0, .int (-1), .int 0, .int 0])), (kl, .inr (2, [.ref kx, .ref ky, .int 0])), (tl, .inr (4, [.ref tx, .ref ty, .int 1])), (s0, .inr (3, [.ref a0, .ref a1, .ref a2, .ref a3, .ref a4, .ref a5, .ref a6, .int 0, .ref a7, .ref a8, .ref a9, .ref a10, .ref a11, .int 0]))] sz)) (xX xIAE (¬ (p0 = 0 ∨ p0 = 1 ∨ p0 = 2 ∨ p0 = 3)) (va_A [(h0, .inr (5, [.ref s0, .ref de, .ref kl, .ref tl, .ref cu, .ref hk, .ref ca, .int 0, .int 0, .int (-1), .int 0, .int 0])), (kl, .inr (2, [.ref kx, .ref ky, .int 0])), (tl, .inr (4, [.ref tx, .ref ty, .int 1])), (s0, .inr (3, [.ref a0, .ref a1, .ref a2, .ref a3, .ref a4, .ref a5, .ref a6, .int 0, .ref a7, .ref a8, .ref a9, .ref a10, .ref a11, .int 0]))] sz)) 3 18 (va_A [(h0, .inr (5, [.ref s0, .ref de, .ref kl, .ref tl, .ref cu, .ref hk, .ref ca, .int 0, .int 0, .int (-1), .int 0, .int 0])), (kl, .inr (2, [.ref kx, .ref ky, .int 0])), (tl, .inr (4, [.ref tx, .ref ty, .int 1])), (s0, .inr (3, [.ref a0, .ref a1, .ref a2, .ref a3, .ref a4, .ref a5, .ref a6, .int 0, .ref a7, .ref a8, .ref a9, .ref a10, .ref a11, .int 0]))] sz) := by
  refine vx_ofW (cc := cX5_count) (maxL := 2) (ret := (some .int)) (by decide) rfl ?_
  intro p e s m args below meth c s₁ B hml htab hv
  obtain ⟨rfl, hsz, hP, hK, hD0, hE⟩ := hv
  have hx := B.exec
  have hb := B.bytes
  have hr := B.returns
  have ht : ∀ w ∈ xb, w.before _ s = true := fun w h => atoms_spec (ws := xw yX5_count cX5_count 2 (some .int)) B.pre w (List.mem_cons_of_mem _ h)
  have hown : s.vm.findClass RX5 = some m.cls := findClass_of_methodNamed B.named
  have hlocks := B.notSynchronized
  subst hsz
  have hAb := x_Ab hD0 hE.1
  have hD := hD0.self (sz := s.heap.size)
  generalize hAe : va_A [(h0, .inr (5, [.ref s0, .ref de, .ref kl, .ref tl, .ref cu, .ref hk, .ref ca, .int 0, .int 0, .int (-1), .int 0, .int 0])), (kl, .inr (2, [.ref kx, .ref ky, .int 0])), (tl, .inr (4, [.ref tx, .ref ty, .int 1])), (s0, .inr (3, [.ref a0, .ref a1, .ref a2, .ref a3, .ref a4, .ref a5, .ref a6, .int 0, .ref a7, .ref a8, .ref a9, .ref a10, .ref a11, .int 0]))] s.heap.size = A at hD hAb ⊢
  have hA : ∀ q : Nat, s.heap.size ≤ q → A q := fun q h => by rw [← hAe]; exact Or.inr h
  have hS : va_S A s.heap s.heap [] := va_S.rf
  have hP : va_P D vwCl [(h0, .inr (5, [.ref s0, .ref de, .ref kl, .ref tl, .ref cu, .ref hk, .ref ca, .int 0, .int 0, .int (-1), .int 0, .int 0])), (kl, .inr (2, [.ref kx, .ref ky, .int 0])), (tl, .inr (4, [.ref tx, .ref ty, .int 1])), (s0, .inr (3, [.ref a0, .ref a1, .ref a2, .ref a3, .ref a4, .ref a5, .ref a6, .int 0, .ref a7, .ref a8, .ref a9, .ref a10, .ref a11, .int 0]))] s.heap := hP
  have hl := lv_entry ([.ref h0, .int p0]) (n := 2) (Nat.le_of_ble_eq_true rfl)
  rw [lg_entry_eq]
  generalize (lg_sl ([.ref h0, .int p0]) ++ List.replicate (2 - (lg_sl ([.ref h0, .int p0])).length) Slot.unset).toArray = ls at hl ⊢
  have hl : lv_has ls 2 [(0, .ref h0), (1, .int p0)] := hl
  refine lv_iload_n hx hb dX5_count_0 rfl (lv_at hl 1 rfl) ?_
  by_cases n_0 : p0 = 0
  · skip
    subst n_0
    refine lv_tableIn (off := 31) (tgt := 32) hx hb dX5_count_1 (by decide) (by decide) (by decide) (by decide) ?_
    refine lv_aload_n hx hb dX5_count_32 rfl (lv_at hl 0 rfl) ?_
    refine va_get (D := D) (ci := 5) (v := .ref s0) (C := RX5) (T := TX5) (N := 12) hx hb ht inX5 hown hK hP 0 rfl rfl 0 (by decide) (ht _ m_274) (fun _ h9 => h9) rfl dX5_count_33 ?_
    have hPc := hP.sub (ws' := [(s0, .inr (3, [.ref a0, .ref a1, .ref a2, .ref a3, .ref a4, .ref a5, .ref a6, .int 0, .ref a7, .ref a8, .ref a9, .ref a10, .ref a11, .int 0]))]) [3] rfl
    have hDc := hD.sub (ws' := [(s0, .inr (3, [.ref a0, .ref a1, .ref a2, .ref a3, .ref a4, .ref a5, .ref a6, .int 0, .ref a7, .ref a8, .ref a9, .ref a10, .ref a11, .int 0]))]) [3] (by decide) rfl
    have hFc := va_free (wc := [(s0, .inr (3, [.ref a0, .ref a1, .ref a2, .ref a3, .ref a4, .ref a5, .ref a6, .int 0, .ref a7, .ref a8, .ref a9, .ref a10, .ref a11, .int 0]))]) hD hS hA [3] rfl
    refine va_calli (va_runV (As := []) (rest := []) ⟨hx, hb, hml, hown, ht⟩ (k3_size0 l D C b0 s.heap.size s0 a0 a1 a2 a3 a4 a5 a6 a7 a8 a9 a10 a11) (cwV 0 ht (xg_V m_347 m_348 m_349 m_258 m_161) rfl rfl rfl (by decide +kernel) ⟨Nat.le_of_ble_eq_true rfl, Nat.le_of_ble_eq_true rfl⟩) ⟨xPc_bl, va_recv hK hPc (ci := 3) (q0 := 0) rfl rfl, xPc_at hPc hK hDc hE hS hAb⟩ rfl rfl hl.1 rfl (lv_room (Nat.le_of_ble_eq_true rfl)) dX5_count_36 ⟨(by decide), (by decide)⟩) hS (fun q _ h => hFc q h) hFc (fun r_1 u_2 t H1 locs ht1 hvm hw hB hz1 hk1 hS => ?_)
    obtain ⟨hP1, hD1⟩ := hB
    rw [ht1] at hP1
    try dsimp only at hw
    obtain ⟨hP, hD⟩ := va_join (wr := [(h0, .inr (5, [.ref s0, .ref de, .ref kl, .ref tl, .ref cu, .ref hk, .ref ca, .int 0, .int 0, .int (-1), .int 0, .int 0])), (kl, .inr (2, [.ref kx, .ref ky, .int 0])), (tl, .inr (4, [.ref tx, .ref ty, .int 1]))]) (w1 := [(s0, .inr (3, [.ref a0, .ref a1, .ref a2, .ref a3, .ref a4, .ref a5, .ref a6, .int 0, .ref a7, .ref a8, .ref a9, .ref a10, .ref a11, .int 0]))]) hP hD [3] [0, 1, 2] rfl rfl (by decide) (by decide) hk1 hFc hP1 hD1
    generalize H1 = H at hP hS ⊢
    have hP : va_P D vwCl [(h0, .inr (5, [.ref s0, .ref de, .ref kl, .ref tl, .ref cu, .ref hk, .ref ca, .int 0, .int 0, .int (-1), .int 0, .int 0])), (kl, .inr (2, [.ref kx, .ref ky, .int 0])), (tl, .inr (4, [.ref tx, .ref ty, .int 1])), (s0, .inr (3, [.ref a0, .ref a1, .ref a2, .ref a3, .ref a4, .ref a5, .ref a6, .int 0, .ref a7, .ref a8, .ref a9, .ref a10, .ref a11, .int 0]))] H := hP
    have hD : va_D A [(h0, .inr (5, [.ref s0, .ref de, .ref kl, .ref tl, .ref cu, .ref hk, .ref ca, .int 0, .int 0, .int (-1), .int 0, .int 0])), (kl, .inr (2, [.ref kx, .ref ky, .int 0])), (tl, .inr (4, [.ref tx, .ref ty, .int 1])), (s0, .inr (3, [.ref a0, .ref a1, .ref a2, .ref a3, .ref a4, .ref a5, .ref a6, .int 0, .ref a7, .ref a8, .ref a9, .ref a10, .ref a11, .int 0]))] := hD
    have hq_36 := hw
    obtain rfl : r_1 = (0 : Int32) := hw
    have hP9 := hP.sub (ws' := []) [] rfl
    have hD9 := hD.sub (ws' := []) [] (by decide) rfl
    refine W.widen (k := 3) (n := 18) (by decide) (by decide) ?_
    refine vx_ret ?_
    exact W.iret (v := 0) hx hb hr (fun t ht1 hW => ⟨⟨0, (xA [], xF []), rfl, by decide, by rw [ht1]; exact hP9, hD9⟩, hS.F ht1⟩) hS.2.2 dX5_count_39
  by_cases n_1 : p0 = 1
  · skip
    subst n_1
    refine lv_tableIn (off := 39) (tgt := 40) hx hb dX5_count_1 (by decide) (by decide) (by decide) (by decide) ?_
    refine lv_aload_n hx hb dX5_count_40 rfl (lv_at hl 0 rfl) ?_
    refine va_get (D := D) (ci := 5) (v := .int 0) (C := RX5) (T := TX5) (N := 12) hx hb ht inX5 hown hK hP 0 rfl rfl 8 (by decide) (ht _ m_263) (fun _ h9 => h9) rfl dX5_count_41 ?_
    have hP9 := hP.sub (ws' := []) [] rfl
    have hD9 := hD.sub (ws' := []) [] (by decide) rfl
    refine W.widen (k := 3) (n := 18) (by decide) (by decide) ?_
    refine vx_ret ?_
    exact W.iret (v := 0) hx hb hr (fun t ht1 hW => ⟨⟨0, (xA [], xF []), rfl, by decide, by rw [ht1]; exact hP9, hD9⟩, hS.F ht1⟩) hS.2.2 dX5_count_44
  by_cases n_2 : p0 = 2
  · skip
    subst n_2
    refine lv_tableIn (off := 44) (tgt := 45) hx hb dX5_count_1 (by decide) (by decide) (by decide) (by decide) ?_
    refine lv_aload_n hx hb dX5_count_45 rfl (lv_at hl 0 rfl) ?_
    refine va_get (D := D) (ci := 5) (v := .int 0) (C := RX5) (T := TX5) (N := 12) hx hb ht inX5 hown hK hP 0 rfl rfl 7 (by decide) (ht _ m_346) (fun _ h9 => h9) rfl dX5_count_46 ?_
    have hP9 := hP.sub (ws' := []) [] rfl
    have hD9 := hD.sub (ws' := []) [] (by decide) rfl
    refine W.widen (k := 3) (n := 18) (by decide) (by decide) ?_
    refine vx_ret ?_
    exact W.iret (v := 0) hx hb hr (fun t ht1 hW => ⟨⟨0, (xA [], xF []), rfl, by decide, by rw [ht1]; exact hP9, hD9⟩, hS.F ht1⟩) hS.2.2 dX5_count_49
  by_cases n_3 : p0 = 3
  · skip
    subst n_3
    refine lv_tableIn (off := 49) (tgt := 50) hx hb dX5_count_1 (by decide) (by decide) (by decide) (by decide) ?_
    refine lv_aload_n hx hb dX5_count_50 rfl (lv_at hl 0 rfl) ?_
    refine va_get (D := D) (ci := 5) (v := .int (-1)) (C := RX5) (T := TX5) (N := 12) hx hb ht inX5 hown hK hP 0 rfl rfl 9 (by decide) (ht _ m_350) (fun _ h9 => h9) rfl dX5_count_51 ?_
    have hP9 := hP.sub (ws' := []) [] rfl
    have hD9 := hD.sub (ws' := []) [] (by decide) rfl
    refine W.widen (k := 3) (n := 18) (by decide) (by decide) ?_
    refine vx_ret ?_
    exact W.iret (v := (-1)) hx hb hr (fun t ht1 hW => ⟨⟨(-1), (xA [], xF []), rfl, by decide, by rw [ht1]; exact hP9, hD9⟩, hS.F ht1⟩) hS.2.2 dX5_count_54
  refine lv_tableOut (tgt := 55) hx hb dX5_count_1 (x_out4 n_0 n_1 n_2 n_3) (by decide) ?_
  exact x_thrI (text := "count tells 0 to 3") (mc := 3) (ms := 18) hx hb hl0 hown ht hE hAb (by decide +kernel) hS (by rw [hml]; exact hl.1) dX5_count_55 dX5_count_58 dX5_count_59 dX5_count_61 dX5_count_64 htab (Nat.le_of_ble_eq_true rfl) (Nat.le_of_ble_eq_true rfl) (by decide) (by decide) hlocks (fun t hv1 hz1 hq1 => ⟨(), fun h => h.elim n_0 (fun h => h.elim n_1 (fun h => h.elim n_2 n_3)), rfl, x_F hS hz1 hq1⟩) hS.2.2 (by decide) (by decide)
set_option maxHeartbeats 4000000 in
set_option maxRecDepth 100000 in
theorem k5_call (l : Launch) (D : va_G) (C : Nat → ClassId) (b0 sz : Nat) (h0 : Nat) (s0 : Nat) (de : Nat) (kl : Nat) (tl : Nat) (cu : Nat) (hk : Nat) (ca : Nat) (kx : Nat) (ky : Nat) (tx : Nat) (ty : Nat) (a0 : Nat) (a1 : Nat) (a2 : Nat) (a3 : Nat) (a4 : Nat) (a5 : Nat) (a6 : Nat) (a7 : Nat) (a8 : Nat) (a9 : Nat) (a10 : Nat) (a11 : Nat) (p0 : Int32) : Met l yX5_call (xw yX5_call cX5_call 2 (some .int)) ({ frames := 8, cells := 0, slots := 0, locals := 150 }) (xPc D C b0 [.ref h0, .int p0] [(h0, .inr (5, [.ref s0, .ref de, .ref kl, .ref tl, .ref cu, .ref hk, .ref ca, .int 0, .int 0, .int (-1), .int 0, .int 0])), (kl, .inr (2, [.ref kx, .ref ky, .int 0])), (tl, .inr (4, [.ref tx, .ref ty, .int 1])), (s0, .inr (3, [.ref a0, .ref a1, .ref a2, .ref a3, .ref a4, .ref a5, .ref a6, .int 0, .ref a7, .ref a8, .ref a9, .ref a10, .ref a11, .int 0]))] sz) (va_Qi (fun (r : Int32) (u : xS) => r = -1) (xBw D (va_A [(h0, .inr (5, [.ref s0, .ref de, .ref kl, .ref tl, .ref cu, .ref hk, .ref ca, .int 0, .int 0, .int (-1), .int 0, .int 0])), (kl, .inr (2, [.ref kx, .ref ky, .int 0])), (tl, .inr (4, [.ref tx, .ref ty, .int 1])), (s0, .inr (3, [.ref a0, .ref a1, .ref a2, .ref a3, .ref a4, .ref a5, .ref a6, .int 0, .ref a7, .ref a8, .ref a9, .ref a10, .ref a11, .int 0]))] sz) (fun u => [])) (va_A [(h0, .inr (5, [.ref s0, .ref de, .ref kl, .ref tl, .ref cu, .ref hk, .ref ca, .int 0, .int 0, .int (-1), .int 0, .int 0])), (kl, .inr (2, [.ref kx, .ref ky, .int 0])), (tl, .inr (4, [.ref tx, .ref ty, .int 1])), (s0, .inr (3, [.ref a0, .ref a1, .ref a2, .ref a3, .ref a4, .ref a5, .ref a6, .int 0, .ref a7, .ref a8, .ref a9, .ref a10, .ref a11, .int 0]))] sz)) 0 0 (va_A [(h0, .inr (5, [.ref s0, .ref de, .ref kl, .ref tl, .ref cu, .ref hk, .ref ca, .int 0, .int 0, .int (-1), .int 0, .int 0])), (kl, .inr (2, [.ref kx, .ref ky, .int 0])), (tl, .inr (4, [.ref tx, .ref ty, .int 1])), (s0, .inr (3, [.ref a0, .ref a1, .ref a2, .ref a3, .ref a4, .ref a5, .ref a6, .int 0, .ref a7, .ref a8, .ref a9, .ref a10, .ref a11, .int 0]))] sz) := by
  refine Met.ofW (cc := cX5_call) (maxL := 2) (ret := (some .int)) (by decide) rfl ?_
  intro p e s m args below meth c s₁ B hml hv
  obtain ⟨rfl, hsz, hP, hK, hD0, hE⟩ := hv
  have hx := B.exec
  have hb := B.bytes
  have hr := B.returns
  have ht : ∀ w ∈ xb, w.before _ s = true := fun w h => atoms_spec (ws := xw yX5_call cX5_call 2 (some .int)) B.pre w (List.mem_cons_of_mem _ h)
  have hown : s.vm.findClass RX5 = some m.cls := findClass_of_methodNamed B.named
  have hlocks := B.notSynchronized
  subst hsz
  have hAb := x_Ab hD0 hE.1
  have hD := hD0.self (sz := s.heap.size)
  generalize hAe : va_A [(h0, .inr (5, [.ref s0, .ref de, .ref kl, .ref tl, .ref cu, .ref hk, .ref ca, .int 0, .int 0, .int (-1), .int 0, .int 0])), (kl, .inr (2, [.ref kx, .ref ky, .int 0])), (tl, .inr (4, [.ref tx, .ref ty, .int 1])), (s0, .inr (3, [.ref a0, .ref a1, .ref a2, .ref a3, .ref a4, .ref a5, .ref a6, .int 0, .ref a7, .ref a8, .ref a9, .ref a10, .ref a11, .int 0]))] s.heap.size = A at hD hAb ⊢
  have hA : ∀ q : Nat, s.heap.size ≤ q → A q := fun q h => by rw [← hAe]; exact Or.inr h
  have hS : va_S A s.heap s.heap [] := va_S.rf
  have hP : va_P D vwCl [(h0, .inr (5, [.ref s0, .ref de, .ref kl, .ref tl, .ref cu, .ref hk, .ref ca, .int 0, .int 0, .int (-1), .int 0, .int 0])), (kl, .inr (2, [.ref kx, .ref ky, .int 0])), (tl, .inr (4, [.ref tx, .ref ty, .int 1])), (s0, .inr (3, [.ref a0, .ref a1, .ref a2, .ref a3, .ref a4, .ref a5, .ref a6, .int 0, .ref a7, .ref a8, .ref a9, .ref a10, .ref a11, .int 0]))] s.heap := hP
  have hl := lv_entry ([.ref h0, .int p0]) (n := 2) (Nat.le_of_ble_eq_true rfl)
  rw [lg_entry_eq]
  generalize (lg_sl ([.ref h0, .int p0]) ++ List.replicate (2 - (lg_sl ([.ref h0, .int p0])).length) Slot.unset).toArray = ls at hl ⊢
  have hl : lv_has ls 2 [(0, .ref h0), (1, .int p0)] := hl
  refine lv_iload_n hx hb dX5_call_0 rfl (lv_at hl 1 rfl) ?_
  refine lv_if_lt (tgt := 30) hx hb dX5_call_1 (by decide) (fun c_1 => ?_) (fun c_1 => ?_)
  · skip
    refine lv_iconst (v := (-1)) hx hb dX5_call_30 (by decide) ?_
    have hP9 := hP.sub (ws' := []) [] rfl
    have hD9 := hD.sub (ws' := []) [] (by decide) rfl
    refine W.widen (k := 0) (n := 0) (by decide) (by decide) ?_
    exact W.iret (v := (-1)) hx hb hr (fun t ht1 hW => ⟨⟨(-1), (xA [], xF []), rfl, by first | trivial | rfl | assumption | decide | (simp_all; done), by rw [ht1]; exact hP9, hD9⟩, hS.F ht1⟩) hS.2.2 dX5_call_31
  · skip
    refine lv_iload_n hx hb dX5_call_4 rfl (lv_at hl 1 rfl) ?_
    refine lv_aload_n hx hb dX5_call_5 rfl (lv_at hl 0 rfl) ?_
    refine va_get (D := D) (ci := 5) (v := .int 0) (C := RX5) (T := TX5) (N := 12) hx hb ht inX5 hown hK hP 0 rfl rfl 8 (by decide) (ht _ m_263) (fun _ h9 => h9) rfl dX5_call_6 ?_
    refine lv_icmp_ge (tgt := 30) hx hb dX5_call_9 (by decide) (fun c_9 => ?_) (fun c_9 => ?_)
    · skip
      refine lv_iconst (v := (-1)) hx hb dX5_call_30 (by decide) ?_
      have hP9 := hP.sub (ws' := []) [] rfl
      have hD9 := hD.sub (ws' := []) [] (by decide) rfl
      refine W.widen (k := 0) (n := 0) (by decide) (by decide) ?_
      exact W.iret (v := (-1)) hx hb hr (fun t ht1 hW => ⟨⟨(-1), (xA [], xF []), rfl, by first | trivial | rfl | assumption | decide | (simp_all; done), by rw [ht1]; exact hP9, hD9⟩, hS.F ht1⟩) hS.2.2 dX5_call_31
    · exact absurd (x_ge c_1) c_9
