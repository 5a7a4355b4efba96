set_option maxHeartbeats 4000000 in
set_option maxRecDepth 100000 in
theorem k0_init (l : Launch) (D : va_G) (C : Nat → ClassId) (b0 sz : Nat) (h0 : Nat) : Met l yX0_init (xw yX0_init cX0_init 1 none) ({ frames := 8, cells := 0, slots := 0, locals := 150 }) (xPc D C b0 [.ref h0] [(h0, .inr (0, [.int 0, .int 0, .int 0, .int 0, .int 0]))] sz) (va_Qv (fun u : xS => True) (xBw D (va_A [(h0, .inr (0, [.int 0, .int 0, .int 0, .int 0, .int 0]))] sz) (fun u => [(h0, .inr (0, [.int 0, .int 0, .int 0, .int 0, .int 0]))])) (va_A [(h0, .inr (0, [.int 0, .int 0, .int 0, .int 0, .int 0]))] sz)) 0 0 (va_A [(h0, .inr (0, [.int 0, .int 0, .int 0, .int 0, .int 0]))] sz) := by
  refine Met.ofW (cc := cX0_init) (maxL := 1) (ret := none) (by decide) rfl ?_
  intro p e s m args below meth c s₁ B hml hv
  obtain ⟨rfl, hsz, hP, hK, hD0, hE⟩ := hv
  have hx := B.exec
  have hb := B.bytes
  have hr := B.returns
  have ht : ∀ w ∈ xb, w.before _ s = true := fun w h => atoms_spec (ws := xw yX0_init cX0_init 1 none) B.pre w (List.mem_cons_of_mem _ h)
  have hown : s.vm.findClass RX0 = some m.cls := findClass_of_methodNamed B.named
  have hlocks := B.notSynchronized
  have hin : meth.name = "<init>" := (name_of_methodNamed B.named B.method).1
  subst hsz
  have hAb := x_Ab hD0 hE.1
  have hD := hD0.self (sz := s.heap.size)
  generalize hAe : va_A [(h0, .inr (0, [.int 0, .int 0, .int 0, .int 0, .int 0]))] s.heap.size = A at hD hAb ⊢
  have hA : ∀ q : Nat, s.heap.size ≤ q → A q := fun q h => by rw [← hAe]; exact Or.inr h
  have hS : va_S A s.heap s.heap [] := va_S.rf
  have hP : va_P D vwCl [(h0, .inr (0, [.int 0, .int 0, .int 0, .int 0, .int 0]))] s.heap := hP
  have hl := lv_entry ([.ref h0]) (n := 1) (Nat.le_of_ble_eq_true rfl)
  rw [lg_entry_eq]
  generalize (lg_sl ([.ref h0]) ++ List.replicate (1 - (lg_sl ([.ref h0])).length) Slot.unset).toArray = ls at hl ⊢
  have hl : lv_has ls 1 [(0, .ref h0)] := hl
  refine lv_aload_n hx hb dX0_init_0 rfl (lv_at hl 0 rfl) ?_
  refine W.objInit hx hb hown (ht _ m_244) (ht _ m_99) (ht _ m_100) rfl (by rw [hml]; exact hl.1) rfl dX0_init_1 (Nat.le_of_ble_eq_true rfl) (Nat.le_of_ble_eq_true rfl) ?_
  refine W.eq (g2 := F0 m 4 ls []) rfl ?_
  have hP9 := hP.sub (ws' := [(h0, .inr (0, [.int 0, .int 0, .int 0, .int 0, .int 0]))]) [0] rfl
  have hD9 := hD.sub (ws' := [(h0, .inr (0, [.int 0, .int 0, .int 0, .int 0, .int 0]))]) [0] (by decide) rfl
  refine W.widen (k := 0) (n := 0) (by decide) (by decide) ?_
  exact W.vret hx hb hr (fun t ht1 hW => ⟨⟨(xA [], xF []), rfl, by first | trivial | rfl | assumption | decide | (simp_all; done), by rw [ht1]; exact hP9, hD9⟩, hS.F ht1⟩) hS.2.2 dX0_init_4
set_option maxHeartbeats 4000000 in
set_option maxRecDepth 100000 in
theorem k2_init (l : Launch) (D : va_G) (C : Nat → ClassId) (b0 sz : Nat) (h0 : Nat) : Met l yX2_init (xw yX2_init cX2_init 1 none) ({ frames := 8, cells := 2, slots := 10541, locals := 150 }) (xPc D C b0 [.ref h0] [(h0, .inr (2, [.null, .null, .int 0]))] sz) (va_Qv (fun u : xS => True) (xBw D (va_A [(h0, .inr (2, [.null, .null, .int 0]))] sz) (fun u => [(h0, .inr (2, [.ref (u.1 0), .ref (u.1 1), .int 0]))])) (va_A [(h0, .inr (2, [.null, .null, .int 0]))] sz)) 2 10541 (va_A [(h0, .inr (2, [.null, .null, .int 0]))] sz) := by
  refine Met.ofW (cc := cX2_init) (maxL := 1) (ret := none) (by decide) rfl ?_
  intro p e s m args below meth c s₁ B hml hv
  obtain ⟨rfl, hsz, hP, hK, hD0, hE⟩ := hv
  have hx := B.exec
  have hb := B.bytes
  have hr := B.returns
  have ht : ∀ w ∈ xb, w.before _ s = true := fun w h => atoms_spec (ws := xw yX2_init cX2_init 1 none) B.pre w (List.mem_cons_of_mem _ h)
  have hown : s.vm.findClass RX2 = some m.cls := findClass_of_methodNamed B.named
  have hlocks := B.notSynchronized
  have hin : meth.name = "<init>" := (name_of_methodNamed B.named B.method).1
  subst hsz
  have hAb := x_Ab hD0 hE.1
  have hD := hD0.self (sz := s.heap.size)
  generalize hAe : va_A [(h0, .inr (2, [.null, .null, .int 0]))] s.heap.size = A at hD hAb ⊢
  have hA : ∀ q : Nat, s.heap.size ≤ q → A q := fun q h => by rw [← hAe]; exact Or.inr h
  have hS : va_S A s.heap s.heap [] := va_S.rf
  have hP : va_P D vwCl [(h0, .inr (2, [.null, .null, .int 0]))] s.heap := hP
  have hl := lv_entry ([.ref h0]) (n := 1) (Nat.le_of_ble_eq_true rfl)
  rw [lg_entry_eq]
  generalize (lg_sl ([.ref h0]) ++ List.replicate (1 - (lg_sl ([.ref h0])).length) Slot.unset).toArray = ls at hl ⊢
  have hl : lv_has ls 1 [(0, .ref h0)] := hl
  refine lv_aload_n hx hb dX2_init_0 rfl (lv_at hl 0 rfl) ?_
  refine W.objInit hx hb hown (ht _ m_245) (ht _ m_99) (ht _ m_100) rfl (by rw [hml]; exact hl.1) rfl dX2_init_1 (Nat.le_of_ble_eq_true rfl) (Nat.le_of_ble_eq_true rfl) ?_
  refine W.eq (g2 := F0 m 4 ls []) rfl ?_
  refine lv_aload_n hx hb dX2_init_4 rfl (lv_at hl 0 rfl) ?_
  refine lv_sipush (v := 10291) hx hb dX2_init_5 (by decide) ?_
  refine va_newa (atype := .int) (ty := .int) (N' := 10291) (a0 := (10291, .inl (fun _ => 0))) hx hb (ht _ m_246) rfl hK hP hD hS hA (fun _ => rfl) (by decide) (by decide) (by decide) (by decide) (by decide) dX2_init_8 (fun q_1 cA H hK9 hP hD hS => ?_)
  obtain rfl := x_tyI hK9
  refine W.widen (k := 1) (n := 10291) (by decide) (by decide) ?_
  have hP : va_P D vwCl [(h0, .inr (2, [.null, .null, .int 0])), (q_1, .inl (C 0, 10291, .inl (fun _ => 0)))] H := hP
  have hD : va_D A [(h0, .inr (2, [.null, .null, .int 0])), (q_1, .inl (C 0, 10291, .inl (fun _ => 0)))] := hD
  refine va_putF (D := D) (ci := 2) (v := .ref q_1) (ty := tyX2 0) (C := RX2) (T := TX2) (N := 3) hx hb ht inX2 tyX2 tyX2_ok nmX2 hown hK hP hD hS 0 rfl rfl 0 (by decide) (ht _ m_247) (fun _ h9 => h9) rfl hin rfl (by decide +kernel) rfl rfl (Nat.le_of_ble_eq_true rfl) dX2_init_10 (fun H locs hP hD hS => ?_)
  have hP : va_P D vwCl [(h0, .inr (2, [.ref q_1, .null, .int 0])), (q_1, .inl (C 0, 10291, .inl (fun _ => 0)))] H := hP
  have hD : va_D A [(h0, .inr (2, [.ref q_1, .null, .int 0])), (q_1, .inl (C 0, 10291, .inl (fun _ => 0)))] := hD
  refine lv_aload_n hx hb dX2_init_13 rfl (lv_at hl 0 rfl) ?_
  refine lv_sipush (v := 250) hx hb dX2_init_14 (by decide) ?_
  refine va_newa (atype := .int) (ty := .int) (N' := 250) (a0 := (250, .inl (fun _ => 0))) hx hb (ht _ m_246) rfl hK hP hD hS hA (fun _ => rfl) (by decide) (by decide) (by decide) (by decide) (by decide) dX2_init_17 (fun q_2 cA H hK9 hP hD hS => ?_)
  obtain rfl := x_tyI hK9
  refine W.widen (k := 2) (n := 10541) (by decide) (by decide) ?_
  have hP : va_P D vwCl [(h0, .inr (2, [.ref q_1, .null, .int 0])), (q_1, .inl (C 0, 10291, .inl (fun _ => 0))), (q_2, .inl (C 0, 250, .inl (fun _ => 0)))] H := hP
  have hD : va_D A [(h0, .inr (2, [.ref q_1, .null, .int 0])), (q_1, .inl (C 0, 10291, .inl (fun _ => 0))), (q_2, .inl (C 0, 250, .inl (fun _ => 0)))] := hD
  refine va_putF (D := D) (ci := 2) (v := .ref q_2) (ty := tyX2 1) (C := RX2) (T := TX2) (N := 3) hx hb ht inX2 tyX2 tyX2_ok nmX2 hown hK hP hD hS 0 rfl rfl 1 (by decide) (ht _ m_248) (fun _ h9 => h9) rfl hin rfl (by decide +kernel) rfl rfl (Nat.le_of_ble_eq_true rfl) dX2_init_19 (fun H locs hP hD hS => ?_)
  have hP : va_P D vwCl [(h0, .inr (2, [.ref q_1, .ref q_2, .int 0])), (q_1, .inl (C 0, 10291, .inl (fun _ => 0))), (q_2, .inl (C 0, 250, .inl (fun _ => 0)))] H := hP
  have hD : va_D A [(h0, .inr (2, [.ref q_1, .ref q_2, .int 0])), (q_1, .inl (C 0, 10291, .inl (fun _ => 0))), (q_2, .inl (C 0, 250, .inl (fun _ => 0)))] := hD
  have hP9 := hP.sub (ws' := [(h0, .inr (2, [.ref q_1, .ref q_2, .int 0]))]) [0] rfl
  have hD9 := hD.sub (ws' := [(h0, .inr (2, [.ref q_1, .ref q_2, .int 0]))]) [0] (by decide) rfl
  refine W.widen (k := 2) (n := 10541) (by decide) (by decide) ?_
  exact W.vret hx hb hr (fun t ht1 hW => ⟨⟨(xA [q_1, q_2], xF []), rfl, by first | trivial | rfl | assumption | decide | (simp_all; done), by rw [ht1]; exact hP9, hD9⟩, hS.F ht1⟩) hS.2.2 dX2_init_22
set_option maxHeartbeats 4000000 in
set_option maxRecDepth 100000 in
theorem k4_init (l : Launch) (D : va_G) (C : Nat → ClassId) (b0 sz : Nat) (h0 : Nat) : Met l yX4_init (xw yX4_init cX4_init 1 none) ({ frames := 8, cells := 2, slots := 1200, locals := 150 }) (xPc D C b0 [.ref h0] [(h0, .inr (4, [.null, .null, .int 0]))] sz) (va_Qv (fun u : xS => True) (xBw D (va_A [(h0, .inr (4, [.null, .null, .int 0]))] sz) (fun u => [(h0, .inr (4, [.ref (u.1 0), .ref (u.1 1), .int 1]))])) (va_A [(h0, .inr (4, [.null, .null, .int 0]))] sz)) 2 1200 (va_A [(h0, .inr (4, [.null, .null, .int 0]))] sz) := by
  refine Met.ofW (cc := cX4_init) (maxL := 1) (ret := none) (by decide) rfl ?_
  intro p e s m args below meth c s₁ B hml hv
  obtain ⟨rfl, hsz, hP, hK, hD0, hE⟩ := hv
  have hx := B.exec
  have hb := B.bytes
  have hr := B.returns
  have ht : ∀ w ∈ xb, w.before _ s = true := fun w h => atoms_spec (ws := xw yX4_init cX4_init 1 none) B.pre w (List.mem_cons_of_mem _ h)
  have hown : s.vm.findClass RX4 = some m.cls := findClass_of_methodNamed B.named
  have hlocks := B.notSynchronized
  have hin : meth.name = "<init>" := (name_of_methodNamed B.named B.method).1
  subst hsz
  have hAb := x_Ab hD0 hE.1
  have hD := hD0.self (sz := s.heap.size)
  generalize hAe : va_A [(h0, .inr (4, [.null, .null, .int 0]))] s.heap.size = A at hD hAb ⊢
  have hA : ∀ q : Nat, s.heap.size ≤ q → A q := fun q h => by rw [← hAe]; exact Or.inr h
  have hS : va_S A s.heap s.heap [] := va_S.rf
  have hP : va_P D vwCl [(h0, .inr (4, [.null, .null, .int 0]))] s.heap := hP
  have hl := lv_entry ([.ref h0]) (n := 1) (Nat.le_of_ble_eq_true rfl)
  rw [lg_entry_eq]
  generalize (lg_sl ([.ref h0]) ++ List.replicate (1 - (lg_sl ([.ref h0])).length) Slot.unset).toArray = ls at hl ⊢
  have hl : lv_has ls 1 [(0, .ref h0)] := hl
  refine lv_aload_n hx hb dX4_init_0 rfl (lv_at hl 0 rfl) ?_
  refine W.objInit hx hb hown (ht _ m_249) (ht _ m_99) (ht _ m_100) rfl (by rw [hml]; exact hl.1) rfl dX4_init_1 (Nat.le_of_ble_eq_true rfl) (Nat.le_of_ble_eq_true rfl) ?_
  refine W.eq (g2 := F0 m 4 ls []) rfl ?_
  refine lv_aload_n hx hb dX4_init_4 rfl (lv_at hl 0 rfl) ?_
  refine lv_sipush (v := 600) hx hb dX4_init_5 (by decide) ?_
  refine va_newa (atype := .int) (ty := .int) (N' := 600) (a0 := (600, .inl (fun _ => 0))) hx hb (ht _ m_246) rfl hK hP hD hS hA (fun _ => rfl) (by decide) (by decide) (by decide) (by decide) (by decide) dX4_init_8 (fun q_1 cA H hK9 hP hD hS => ?_)
  obtain rfl := x_tyI hK9
  refine W.widen (k := 1) (n := 600) (by decide) (by decide) ?_
  have hP : va_P D vwCl [(h0, .inr (4, [.null, .null, .int 0])), (q_1, .inl (C 0, 600, .inl (fun _ => 0)))] H := hP
  have hD : va_D A [(h0, .inr (4, [.null, .null, .int 0])), (q_1, .inl (C 0, 600, .inl (fun _ => 0)))] := hD
  refine va_putF (D := D) (ci := 4) (v := .ref q_1) (ty := tyX4 0) (C := RX4) (T := TX4) (N := 3) hx hb ht inX4 tyX4 tyX4_ok nmX4 hown hK hP hD hS 0 rfl rfl 0 (by decide) (ht _ m_250) (fun _ h9 => h9) rfl hin rfl (by decide +kernel) rfl rfl (Nat.le_of_ble_eq_true rfl) dX4_init_10 (fun H locs hP hD hS => ?_)
  have hP : va_P D vwCl [(h0, .inr (4, [.ref q_1, .null, .int 0])), (q_1, .inl (C 0, 600, .inl (fun _ => 0)))] H := hP
  have hD : va_D A [(h0, .inr (4, [.ref q_1, .null, .int 0])), (q_1, .inl (C 0, 600, .inl (fun _ => 0)))] := hD
  refine lv_aload_n hx hb dX4_init_13 rfl (lv_at hl 0 rfl) ?_
  refine lv_sipush (v := 600) hx hb dX4_init_14 (by decide) ?_
  refine va_newa (atype := .int) (ty := .int) (N' := 600) (a0 := (600, .inl (fun _ => 0))) hx hb (ht _ m_246) rfl hK hP hD hS hA (fun _ => rfl) (by decide) (by decide) (by decide) (by decide) (by decide) dX4_init_17 (fun q_2 cA H hK9 hP hD hS => ?_)
  obtain rfl := x_tyI hK9
  refine W.widen (k := 2) (n := 1200) (by decide) (by decide) ?_
  have hP : va_P D vwCl [(h0, .inr (4, [.ref q_1, .null, .int 0])), (q_1, .inl (C 0, 600, .inl (fun _ => 0))), (q_2, .inl (C 0, 600, .inl (fun _ => 0)))] H := hP
  have hD : va_D A [(h0, .inr (4, [.ref q_1, .null, .int 0])), (q_1, .inl (C 0, 600, .inl (fun _ => 0))), (q_2, .inl (C 0, 600, .inl (fun _ => 0)))] := hD
  refine va_putF (D := D) (ci := 4) (v := .ref q_2) (ty := tyX4 1) (C := RX4) (T := TX4) (N := 3) hx hb ht inX4 tyX4 tyX4_ok nmX4 hown hK hP hD hS 0 rfl rfl 1 (by decide) (ht _ m_251) (fun _ h9 => h9) rfl hin rfl (by decide +kernel) rfl rfl (Nat.le_of_ble_eq_true rfl) dX4_init_19 (fun H locs hP hD hS => ?_)
  have hP : va_P D vwCl [(h0, .inr (4, [.ref q_1, .ref q_2, .int 0])), (q_1, .inl (C 0, 600, .inl (fun _ => 0))), (q_2, .inl (C 0, 600, .inl (fun _ => 0)))] H := hP
  have hD : va_D A [(h0, .inr (4, [.ref q_1, .ref q_2, .int 0])), (q_1, .inl (C 0, 600, .inl (fun _ => 0))), (q_2, .inl (C 0, 600, .inl (fun _ => 0)))] := hD
  refine lv_aload_n hx hb dX4_init_22 rfl (lv_at hl 0 rfl) ?_
  refine lv_iconst (v := 1) hx hb dX4_init_23 (by decide) ?_
  refine va_put (D := D) (ci := 4) (v := .int 1) (ty := tyX4 2) (C := RX4) (T := TX4) (N := 3) hx hb ht inX4 tyX4 tyX4_ok nmX4 hown hK hP hD hS 0 rfl rfl 2 (by decide) (ht _ m_252) (fun _ h9 => h9) rfl (by decide +kernel) rfl rfl (Nat.le_of_ble_eq_true rfl) dX4_init_24 (fun H locs hP hD hS => ?_)
  have hP : va_P D vwCl [(h0, .inr (4, [.ref q_1, .ref q_2, .int 1])), (q_1, .inl (C 0, 600, .inl (fun _ => 0))), (q_2, .inl (C 0, 600, .inl (fun _ => 0)))] H := hP
  have hD : va_D A [(h0, .inr (4, [.ref q_1, .ref q_2, .int 1])), (q_1, .inl (C 0, 600, .inl (fun _ => 0))), (q_2, .inl (C 0, 600, .inl (fun _ => 0)))] := hD
  have hP9 := hP.sub (ws' := [(h0, .inr (4, [.ref q_1, .ref q_2, .int 1]))]) [0] rfl
  have hD9 := hD.sub (ws' := [(h0, .inr (4, [.ref q_1, .ref q_2, .int 1]))]) [0] (by decide) rfl
  refine W.widen (k := 2) (n := 1200) (by decide) (by decide) ?_
  exact W.vret hx hb hr (fun t ht1 hW => ⟨⟨(xA [q_1, q_2], xF []), rfl, by first | trivial | rfl | assumption | decide | (simp_all; done), by rw [ht1]; exact hP9, hD9⟩, hS.F ht1⟩) hS.2.2 dX4_init_27
set_option maxHeartbeats 4000000 in
set_option maxRecDepth 100000 in
theorem k2_cutTo (l : Launch) (D : va_G) (C : Nat → ClassId) (b0 sz : Nat) (h0 : Nat) (x0 : Nat) (x1 : Nat) : Met l yX2_cutTo (xw yX2_cutTo cX2_cutTo 2 none) ({ frames := 8, cells := 0, slots := 0, locals := 150 }) (xPc D C b0 [.ref h0, .int 0] [(h0, .inr (2, [.ref x0, .ref x1, .int 0]))] sz) (va_Qv (fun u : xS => True) (xBw D (va_A [(h0, .inr (2, [.ref x0, .ref x1, .int 0]))] sz) (fun u => [(h0, .inr (2, [.ref x0, .ref x1, .int 0]))])) (va_A [(h0, .inr (2, [.ref x0, .ref x1, .int 0]))] sz)) 0 0 (va_A [(h0, .inr (2, [.ref x0, .ref x1, .int 0]))] sz) := by
  refine Met.ofW (cc := cX2_cutTo) (maxL := 2) (ret := none) (by decide) rfl ?_
  intro p e s m args below meth c s₁ B hml hv
  obtain ⟨rfl, hsz, hP, hK, hD0, hE⟩ := hv
  have hx := B.exec
  have hb := B.bytes
  have hr := B.returns
  have ht : ∀ w ∈ xb, w.before _ s = true := fun w h => atoms_spec (ws := xw yX2_cutTo cX2_cutTo 2 none) B.pre w (List.mem_cons_of_mem _ h)
  have hown : s.vm.findClass RX2 = some m.cls := findClass_of_methodNamed B.named
  have hlocks := B.notSynchronized
  subst hsz
  have hAb := x_Ab hD0 hE.1
  have hD := hD0.self (sz := s.heap.size)
  generalize hAe : va_A [(h0, .inr (2, [.ref x0, .ref x1, .int 0]))] s.heap.size = A at hD hAb ⊢
  have hA : ∀ q : Nat, s.heap.size ≤ q → A q := fun q h => by rw [← hAe]; exact Or.inr h
  have hS : va_S A s.heap s.heap [] := va_S.rf
  have hP : va_P D vwCl [(h0, .inr (2, [.ref x0, .ref x1, .int 0]))] s.heap := hP
  have hl := lv_entry ([.ref h0, .int 0]) (n := 2) (Nat.le_of_ble_eq_true rfl)
  rw [lg_entry_eq]
  generalize (lg_sl ([.ref h0, .int 0]) ++ List.replicate (2 - (lg_sl ([.ref h0, .int 0])).length) Slot.unset).toArray = ls at hl ⊢
  have hl : lv_has ls 2 [(0, .ref h0), (1, .int 0)] := hl
  refine lv_iload_n hx hb dX2_cutTo_0 rfl (lv_at hl 1 rfl) ?_
  refine lv_if_lt (tgt := 17) hx hb dX2_cutTo_1 (by decide) (fun c_1 => ?_) (fun c_1 => ?_)
  · exact absurd c_1 (by decide)
  refine lv_iload_n hx hb dX2_cutTo_4 rfl (lv_at hl 1 rfl) ?_
  refine lv_aload_n hx hb dX2_cutTo_5 rfl (lv_at hl 0 rfl) ?_
  refine va_get (D := D) (ci := 2) (v := .int 0) (C := RX2) (T := TX2) (N := 3) hx hb ht inX2 hown hK hP 0 rfl rfl 2 (by decide) (ht _ m_253) (fun _ h9 => h9) rfl dX2_cutTo_6 ?_
  refine lv_icmp_gt (tgt := 17) hx hb dX2_cutTo_9 (by decide) (fun c_9 => ?_) (fun c_9 => ?_)
  · exact absurd c_9 (by decide)
  refine lv_aload_n hx hb dX2_cutTo_12 rfl (lv_at hl 0 rfl) ?_
  refine lv_iload_n hx hb dX2_cutTo_13 rfl (lv_at hl 1 rfl) ?_
  refine va_put (D := D) (ci := 2) (v := .int 0) (ty := tyX2 2) (C := RX2) (T := TX2) (N := 3) hx hb ht inX2 tyX2 tyX2_ok nmX2 hown hK hP hD hS 0 rfl rfl 2 (by decide) (ht _ m_253) (fun _ h9 => h9) rfl (by decide +kernel) rfl rfl (Nat.le_of_ble_eq_true rfl) dX2_cutTo_14 (fun H locs hP hD hS => ?_)
  have hP : va_P D vwCl [(h0, .inr (2, [.ref x0, .ref x1, .int 0]))] H := hP
  have hD : va_D A [(h0, .inr (2, [.ref x0, .ref x1, .int 0]))] := hD
  have hP9 := hP.sub (ws' := [(h0, .inr (2, [.ref x0, .ref x1, .int 0]))]) [0] rfl
  have hD9 := hD.sub (ws' := [(h0, .inr (2, [.ref x0, .ref x1, .int 0]))]) [0] (by decide) rfl
  refine W.widen (k := 0) (n := 0) (by decide) (by decide) ?_
  exact W.vret hx hb hr (fun t ht1 hW => ⟨⟨(xA [], xF []), rfl, by first | trivial | rfl | assumption | decide | (simp_all; done), by rw [ht1]; exact hP9, hD9⟩, hS.F ht1⟩) hS.2.2 dX2_cutTo_17
set_option maxHeartbeats 4000000 in
set_option maxRecDepth 100000 in
theorem k4_forget (l : Launch) (D : va_G) (C : Nat → ClassId) (b0 sz : Nat) (h0 : Nat) (x0 : Nat) (x1 : Nat) : Met l yX4_forget (xw yX4_forget cX4_forget 1 none) ({ frames := 8, cells := 0, slots := 0, locals := 150 }) (xPc D C b0 [.ref h0] [(h0, .inr (4, [.ref x0, .ref x1, .int 1]))] sz) (va_Qv (fun u : xS => True) (xBw D (va_A [(h0, .inr (4, [.ref x0, .ref x1, .int 1]))] sz) (fun u => [(h0, .inr (4, [.ref x0, .ref x1, .int 2]))])) (va_A [(h0, .inr (4, [.ref x0, .ref x1, .int 1]))] sz)) 0 0 (va_A [(h0, .inr (4, [.ref x0, .ref x1, .int 1]))] sz) := by
  refine Met.ofW (cc := cX4_forget) (maxL := 1) (ret := none) (by decide) rfl ?_
  intro p e s m args below meth c s₁ B hml hv
  obtain ⟨rfl, hsz, hP, hK, hD0, hE⟩ := hv
  have hx := B.exec
  have hb := B.bytes
  have hr := B.returns
  have ht : ∀ w ∈ xb, w.before _ s = true := fun w h => atoms_spec (ws := xw yX4_forget cX4_forget 1 none) B.pre w (List.mem_cons_of_mem _ h)
  have hown : s.vm.findClass RX4 = some m.cls := findClass_of_methodNamed B.named
  have hlocks := B.notSynchronized
  subst hsz
  have hAb := x_Ab hD0 hE.1
  have hD := hD0.self (sz := s.heap.size)
  generalize hAe : va_A [(h0, .inr (4, [.ref x0, .ref x1, .int 1]))] s.heap.size = A at hD hAb ⊢
  have hA : ∀ q : Nat, s.heap.size ≤ q → A q := fun q h => by rw [← hAe]; exact Or.inr h
  have hS : va_S A s.heap s.heap [] := va_S.rf
  have hP : va_P D vwCl [(h0, .inr (4, [.ref x0, .ref x1, .int 1]))] s.heap := hP
  have hl := lv_entry ([.ref h0]) (n := 1) (Nat.le_of_ble_eq_true rfl)
  rw [lg_entry_eq]
  generalize (lg_sl ([.ref h0]) ++ List.replicate (1 - (lg_sl ([.ref h0])).length) Slot.unset).toArray = ls at hl ⊢
  have hl : lv_has ls 1 [(0, .ref h0)] := hl
  refine lv_aload_n hx hb dX4_forget_0 rfl (lv_at hl 0 rfl) ?_
  refine lv_dup hx hb dX4_forget_1 rfl ?_
  refine va_get (D := D) (ci := 4) (v := .int 1) (C := RX4) (T := TX4) (N := 3) hx hb ht inX4 hown hK hP 0 rfl rfl 2 (by decide) (ht _ m_252) (fun _ h9 => h9) rfl dX4_forget_2 ?_
  refine lv_iconst (v := 1) hx hb dX4_forget_5 (by decide) ?_
  refine lv_iadd hx hb dX4_forget_6 ?_
  refine lv_topi (fun x_1 ex_1 => ?_)
  obtain rfl : x_1 = (2 : Int32) := ex_1.trans (by decide)
  refine va_put (D := D) (ci := 4) (v := .int 2) (ty := tyX4 2) (C := RX4) (T := TX4) (N := 3) hx hb ht inX4 tyX4 tyX4_ok nmX4 hown hK hP hD hS 0 rfl rfl 2 (by decide) (ht _ m_252) (fun _ h9 => h9) rfl (by decide +kernel) rfl rfl (Nat.le_of_ble_eq_true rfl) dX4_forget_7 (fun H locs hP hD hS => ?_)
  have hP : va_P D vwCl [(h0, .inr (4, [.ref x0, .ref x1, .int 2]))] H := hP
  have hD : va_D A [(h0, .inr (4, [.ref x0, .ref x1, .int 2]))] := hD
  have hP9 := hP.sub (ws' := [(h0, .inr (4, [.ref x0, .ref x1, .int 2]))]) [0] rfl
  have hD9 := hD.sub (ws' := [(h0, .inr (4, [.ref x0, .ref x1, .int 2]))]) [0] (by decide) rfl
  refine W.widen (k := 0) (n := 0) (by decide) (by decide) ?_
  exact W.vret hx hb hr (fun t ht1 hW => ⟨⟨(xA [], xF []), rfl, by first | trivial | rfl | assumption | decide | (simp_all; done), by rw [ht1]; exact hP9, hD9⟩, hS.F ht1⟩) hS.2.2 dX4_forget_10
set_option maxHeartbeats 4000000 in
set_option maxRecDepth 100000 in
theorem k3_rowOf0 (l : Launch) (D : va_G) (C : Nat → ClassId) (b0 sz : Nat) (h0 : Nat) (a0 : Nat) (a1 : Nat) (a2 : Nat) (a3 : Nat) (a4 : Nat) (a5 : Nat) (a6 : Nat) (a7 : Nat) (a8 : Nat) (a9 : Nat) (a10 : Nat) (a11 : Nat) (v0 : Int32) : Met l yX3_rowOf (xw yX3_rowOf cX3_rowOf 3 (some .int)) ({ frames := 8, cells := 0, slots := 0, locals := 150 }) (xPc D C b0 [.ref h0, .int v0] [(h0, .inr (3, [.ref a0, .ref a1, .ref a2, .ref a3, .ref a4, .ref a5, .ref a6, .int 0, .ref a7, .ref a8, .ref a9, .ref a10, .ref a11, .int 0]))] sz) (va_Qi (fun (r : Int32) (u : xS) => r = -1) (xBw D (va_A [(h0, .inr (3, [.ref a0, .ref a1, .ref a2, .ref a3, .ref a4, .ref a5, .ref a6, .int 0, .ref a7, .ref a8, .ref a9, .ref a10, .ref a11, .int 0]))] sz) (fun u => [(h0, .inr (3, [.ref a0, .ref a1, .ref a2, .ref a3, .ref a4, .ref a5, .ref a6, .int 0, .ref a7, .ref a8, .ref a9, .ref a10, .ref a11, .int 0]))])) (va_A [(h0, .inr (3, [.ref a0, .ref a1, .ref a2, .ref a3, .ref a4, .ref a5, .ref a6, .int 0, .ref a7, .ref a8, .ref a9, .ref a10, .ref a11, .int 0]))] sz)) 0 0 (va_A [(h0, .inr (3, [.ref a0, .ref a1, .ref a2, .ref a3, .ref a4, .ref a5, .ref a6, .int 0, .ref a7, .ref a8, .ref a9, .ref a10, .ref a11, .int 0]))] sz) := by
  refine Met.ofW (cc := cX3_rowOf) (maxL := 3) (ret := (some .int)) (by decide) rfl ?_
  intro p e s m args below meth c s₁ B hml hv
  obtain ⟨rfl, hsz, hP, hK, hD0, hE⟩ := hv
  have hx := B.exec
  have hb := B.bytes
  have hr := B.returns
  have ht : ∀ w ∈ xb, w.before _ s = true := fun w h => atoms_spec (ws := xw yX3_rowOf cX3_rowOf 3 (some .int)) B.pre w (List.mem_cons_of_mem _ h)
  have hown : s.vm.findClass RX3 = some m.cls := findClass_of_methodNamed B.named
  have hlocks := B.notSynchronized
  subst hsz
  have hAb := x_Ab hD0 hE.1
  have hD := hD0.self (sz := s.heap.size)
  generalize hAe : va_A [(h0, .inr (3, [.ref a0, .ref a1, .ref a2, .ref a3, .ref a4, .ref a5, .ref a6, .int 0, .ref a7, .ref a8, .ref a9, .ref a10, .ref a11, .int 0]))] s.heap.size = A at hD hAb ⊢
  have hA : ∀ q : Nat, s.heap.size ≤ q → A q := fun q h => by rw [← hAe]; exact Or.inr h
  have hS : va_S A s.heap s.heap [] := va_S.rf
  have hP : va_P D vwCl [(h0, .inr (3, [.ref a0, .ref a1, .ref a2, .ref a3, .ref a4, .ref a5, .ref a6, .int 0, .ref a7, .ref a8, .ref a9, .ref a10, .ref a11, .int 0]))] s.heap := hP
  have hl := lv_entry ([.ref h0, .int v0]) (n := 3) (Nat.le_of_ble_eq_true rfl)
  rw [lg_entry_eq]
  generalize (lg_sl ([.ref h0, .int v0]) ++ List.replicate (3 - (lg_sl ([.ref h0, .int v0])).length) Slot.unset).toArray = ls at hl ⊢
  have hl : lv_has ls 3 [(0, .ref h0), (1, .int v0)] := hl
  refine lv_bipush (v := (-2)) hx hb dX3_rowOf_0 (by decide) ?_
  refine lv_iload_n hx hb dX3_rowOf_2 rfl (lv_at hl 1 rfl) ?_
  refine lv_isub hx hb dX3_rowOf_3 ?_
  refine lv_topi (fun x_1 ex_1 => ?_)
  refine lv_istore_n (lv' := [(2, .int x_1), (0, .ref h0), (1, .int v0)]) hx hb dX3_rowOf_4 rfl hl (by decide) rfl (fun ls hl => ?_)
  refine lv_iload_n hx hb dX3_rowOf_5 rfl (lv_at hl 0 rfl) ?_
  refine lv_if_lt (tgt := 28) hx hb dX3_rowOf_6 (by decide) (fun c_6 => ?_) (fun c_6 => ?_)
  · skip
    refine lv_iconst (v := (-1)) hx hb dX3_rowOf_28 (by decide) ?_
    have hP9 := hP.sub (ws' := [(h0, .inr (3, [.ref a0, .ref a1, .ref a2, .ref a3, .ref a4, .ref a5, .ref a6, .int 0, .ref a7, .ref a8, .ref a9, .ref a10, .ref a11, .int 0]))]) [0] rfl
    have hD9 := hD.sub (ws' := [(h0, .inr (3, [.ref a0, .ref a1, .ref a2, .ref a3, .ref a4, .ref a5, .ref a6, .int 0, .ref a7, .ref a8, .ref a9, .ref a10, .ref a11, .int 0]))]) [0] (by decide) rfl
    refine W.widen (k := 0) (n := 0) (by decide) (by decide) ?_
    exact W.iret (v := (-1)) hx hb hr (fun t ht1 hW => ⟨⟨(-1), (xA [], xF []), rfl, by first | trivial | rfl | assumption | decide | (simp_all; done), by rw [ht1]; exact hP9, hD9⟩, hS.F ht1⟩) hS.2.2 dX3_rowOf_29
  · skip
    refine lv_iload_n hx hb dX3_rowOf_9 rfl (lv_at hl 0 rfl) ?_
    refine lv_aload_n hx hb dX3_rowOf_10 rfl (lv_at hl 1 rfl) ?_
    refine va_get (D := D) (ci := 3) (v := .int 0) (C := RX3) (T := TX3) (N := 14) hx hb ht inX3 hown hK hP 0 rfl rfl 7 (by decide) (ht _ m_254) (fun _ h9 => h9) rfl dX3_rowOf_11 ?_
    refine lv_icmp_ge (tgt := 28) hx hb dX3_rowOf_14 (by decide) (fun c_14 => ?_) (fun c_14 => ?_)
    · skip
      refine lv_iconst (v := (-1)) hx hb dX3_rowOf_28 (by decide) ?_
      have hP9 := hP.sub (ws' := [(h0, .inr (3, [.ref a0, .ref a1, .ref a2, .ref a3, .ref a4, .ref a5, .ref a6, .int 0, .ref a7, .ref a8, .ref a9, .ref a10, .ref a11, .int 0]))]) [0] rfl
      have hD9 := hD.sub (ws' := [(h0, .inr (3, [.ref a0, .ref a1, .ref a2, .ref a3, .ref a4, .ref a5, .ref a6, .int 0, .ref a7, .ref a8, .ref a9, .ref a10, .ref a11, .int 0]))]) [0] (by decide) rfl
      refine W.widen (k := 0) (n := 0) (by decide) (by decide) ?_
      exact W.iret (v := (-1)) hx hb hr (fun t ht1 hW => ⟨⟨(-1), (xA [], xF []), rfl, by first | trivial | rfl | assumption | decide | (simp_all; done), by rw [ht1]; exact hP9, hD9⟩, hS.F ht1⟩) hS.2.2 dX3_rowOf_29
    · exact absurd (x_ge c_6) c_14
set_option maxHeartbeats 4000000 in
set_option maxRecDepth 100000 in
theorem k3_rowOf1 (l : Launch) (D : va_G) (C : Nat → ClassId) (b0 sz : Nat) (h0 : Nat) (a0 : Nat) (a1 : Nat) (a2 : Nat) (a3 : Nat) (a4 : Nat) (a5 : Nat) (a6 : Nat) (a7 : Nat) (a8 : Nat) (a9 : Nat) (a10 : Nat) (a11 : Nat) (ff : Int32) : Met l yX3_rowOf (xw yX3_rowOf cX3_rowOf 3 (some .int)) ({ frames := 8, cells := 0, slots := 0, locals := 150 }) (xPc D C b0 [.ref h0, .int (-2)] [(h0, .inr (3, [.ref a0, .ref a1, .ref a2, .ref a3, .ref a4, .ref a5, .ref a6, .int 1, .ref a7, .ref a8, .ref a9, .ref a10, .ref a11, .int ff]))] sz) (va_Qi (fun (r : Int32) (u : xS) => r = 0) (xBw D (va_A [(h0, .inr (3, [.ref a0, .ref a1, .ref a2, .ref a3, .ref a4, .ref a5, .ref a6, .int 1, .ref a7, .ref a8, .ref a9, .ref a10, .ref a11, .int ff]))] sz) (fun u => [(h0, .inr (3, [.ref a0, .ref a1, .ref a2, .ref a3, .ref a4, .ref a5, .ref a6, .int 1, .ref a7, .ref a8, .ref a9, .ref a10, .ref a11, .int ff]))])) (va_A [(h0, .inr (3, [.ref a0, .ref a1, .ref a2, .ref a3, .ref a4, .ref a5, .ref a6, .int 1, .ref a7, .ref a8, .ref a9, .ref a10, .ref a11, .int ff]))] sz)) 0 0 (va_A [(h0, .inr (3, [.ref a0, .ref a1, .ref a2, .ref a3, .ref a4, .ref a5, .ref a6, .int 1, .ref a7, .ref a8, .ref a9, .ref a10, .ref a11, .int ff]))] sz) := by
  refine Met.ofW (cc := cX3_rowOf) (maxL := 3) (ret := (some .int)) (by decide) rfl ?_
  intro p e s m args below meth c s₁ B hml hv
  obtain ⟨rfl, hsz, hP, hK, hD0, hE⟩ := hv
  have hx := B.exec
  have hb := B.bytes
  have hr := B.returns
  have ht : ∀ w ∈ xb, w.before _ s = true := fun w h => atoms_spec (ws := xw yX3_rowOf cX3_rowOf 3 (some .int)) B.pre w (List.mem_cons_of_mem _ h)
  have hown : s.vm.findClass RX3 = some m.cls := findClass_of_methodNamed B.named
  have hlocks := B.notSynchronized
  subst hsz
  have hAb := x_Ab hD0 hE.1
  have hD := hD0.self (sz := s.heap.size)
  generalize hAe : va_A [(h0, .inr (3, [.ref a0, .ref a1, .ref a2, .ref a3, .ref a4, .ref a5, .ref a6, .int 1, .ref a7, .ref a8, .ref a9, .ref a10, .ref a11, .int ff]))] s.heap.size = A at hD hAb ⊢
  have hA : ∀ q : Nat, s.heap.size ≤ q → A q := fun q h => by rw [← hAe]; exact Or.inr h
  have hS : va_S A s.heap s.heap [] := va_S.rf
  have hP : va_P D vwCl [(h0, .inr (3, [.ref a0, .ref a1, .ref a2, .ref a3, .ref a4, .ref a5, .ref a6, .int 1, .ref a7, .ref a8, .ref a9, .ref a10, .ref a11, .int ff]))] s.heap := hP
  have hl := lv_entry ([.ref h0, .int (-2)]) (n := 3) (Nat.le_of_ble_eq_true rfl)
  rw [lg_entry_eq]
  generalize (lg_sl ([.ref h0, .int (-2)]) ++ List.replicate (3 - (lg_sl ([.ref h0, .int (-2)])).length) Slot.unset).toArray = ls at hl ⊢
  have hl : lv_has ls 3 [(0, .ref h0), (1, .int (-2))] := hl
  refine lv_bipush (v := (-2)) hx hb dX3_rowOf_0 (by decide) ?_
  refine lv_iload_n hx hb dX3_rowOf_2 rfl (lv_at hl 1 rfl) ?_
  refine lv_isub hx hb dX3_rowOf_3 ?_
  refine lv_topi (fun x_1 ex_1 => ?_)
  obtain rfl : x_1 = (0 : Int32) := ex_1.trans (by decide)
  refine lv_istore_n (lv' := [(2, .int 0), (0, .ref h0), (1, .int (-2))]) hx hb dX3_rowOf_4 rfl hl (by decide) rfl (fun ls hl => ?_)
  refine lv_iload_n hx hb dX3_rowOf_5 rfl (lv_at hl 0 rfl) ?_
  refine lv_if_lt (tgt := 28) hx hb dX3_rowOf_6 (by decide) (fun c_6 => ?_) (fun c_6 => ?_)
  · exact absurd c_6 (by decide)
  refine lv_iload_n hx hb dX3_rowOf_9 rfl (lv_at hl 0 rfl) ?_
  refine lv_aload_n hx hb dX3_rowOf_10 rfl (lv_at hl 1 rfl) ?_
  refine va_get (D := D) (ci := 3) (v := .int 1) (C := RX3) (T := TX3) (N := 14) hx hb ht inX3 hown hK hP 0 rfl rfl 7 (by decide) (ht _ m_254) (fun _ h9 => h9) rfl dX3_rowOf_11 ?_
  refine lv_icmp_ge (tgt := 28) hx hb dX3_rowOf_14 (by decide) (fun c_14 => ?_) (fun c_14 => ?_)
  · exact absurd c_14 (by decide)
  refine lv_iload_n hx hb dX3_rowOf_17 rfl (lv_at hl 0 rfl) ?_
  refine lv_sipush (v := 600) hx hb dX3_rowOf_18 (by decide) ?_
  refine lv_icmp_ge (tgt := 28) hx hb dX3_rowOf_21 (by decide) (fun c_21 => ?_) (fun c_21 => ?_)
  · exact absurd c_21 (by decide)
  refine lv_iload_n hx hb dX3_rowOf_24 rfl (lv_at hl 0 rfl) ?_
  refine lv_goto (tgt := 29) hx hb dX3_rowOf_25 (by decide) ?_
  have hP9 := hP.sub (ws' := [(h0, .inr (3, [.ref a0, .ref a1, .ref a2, .ref a3, .ref a4, .ref a5, .ref a6, .int 1, .ref a7, .ref a8, .ref a9, .ref a10, .ref a11, .int ff]))]) [0] rfl
  have hD9 := hD.sub (ws' := [(h0, .inr (3, [.ref a0, .ref a1, .ref a2, .ref a3, .ref a4, .ref a5, .ref a6, .int 1, .ref a7, .ref a8, .ref a9, .ref a10, .ref a11, .int ff]))]) [0] (by decide) rfl
  refine W.widen (k := 0) (n := 0) (by decide) (by decide) ?_
  exact W.iret (v := 0) hx hb hr (fun t ht1 hW => ⟨⟨0, (xA [], xF []), rfl, by first | trivial | rfl | assumption | decide | (simp_all; done), by rw [ht1]; exact hP9, hD9⟩, hS.F ht1⟩) hS.2.2 dX3_rowOf_29
set_option maxHeartbeats 4000000 in
set_option maxRecDepth 100000 in
theorem k3_isObject0 (l : Launch) (D : va_G) (C : Nat → ClassId) (b0 sz : Nat) (h0 : Nat) (a0 : Nat) (a1 : Nat) (a2 : Nat) (a3 : Nat) (a4 : Nat) (a5 : Nat) (a6 : Nat) (a7 : Nat) (a8 : Nat) (a9 : Nat) (a10 : Nat) (a11 : Nat) (v0 : Int32) : Met l yX3_isObject (xw yX3_isObject cX3_isObject 2 (some .boolean)) ({ frames := 16, cells := 0, slots := 0, locals := 300 }) (xPc D C b0 [.ref h0, .int v0] [(h0, .inr (3, [.ref a0, .ref a1, .ref a2, .ref a3, .ref a4, .ref a5, .ref a6, .int 0, .ref a7, .ref a8, .ref a9, .ref a10, .ref a11, .int 0]))] sz) (va_Qi (fun (r : Int32) (u : xS) => r = 0) (xBw D (va_A [(h0, .inr (3, [.ref a0, .ref a1, .ref a2, .ref a3, .ref a4, .ref a5, .ref a6, .int 0, .ref a7, .ref a8, .ref a9, .ref a10, .ref a11, .int 0]))] sz) (fun u => [(h0, .inr (3, [.ref a0, .ref a1, .ref a2, .ref a3, .ref a4, .ref a5, .ref a6, .int 0, .ref a7, .ref a8, .ref a9, .ref a10, .ref a11, .int 0]))])) (va_A [(h0, .inr (3, [.ref a0, .ref a1, .ref a2, .ref a3, .ref a4, .ref a5, .ref a6, .int 0, .ref a7, .ref a8, .ref a9, .ref a10, .ref a11, .int 0]))] sz)) 0 0 (va_A [(h0, .inr (3, [.ref a0, .ref a1, .ref a2, .ref a3, .ref a4, .ref a5, .ref a6, .int 0, .ref a7, .ref a8, .ref a9, .ref a10, .ref a11, .int 0]))] sz) := by
  refine Met.ofW (cc := cX3_isObject) (maxL := 2) (ret := (some .boolean)) (by decide) rfl ?_
  intro p e s m args below meth c s₁ B hml hv
  obtain ⟨rfl, hsz, hP, hK, hD0, hE⟩ := hv
  have hx := B.exec
  have hb := B.bytes
  have hr := B.returns
  have ht : ∀ w ∈ xb, w.before _ s = true := fun w h => atoms_spec (ws := xw yX3_isObject cX3_isObject 2 (some .boolean)) B.pre w (List.mem_cons_of_mem _ h)
  have hown : s.vm.findClass RX3 = some m.cls := findClass_of_methodNamed B.named
  have hlocks := B.notSynchronized
  subst hsz
  have hAb := x_Ab hD0 hE.1
  have hD := hD0.self (sz := s.heap.size)
  generalize hAe : va_A [(h0, .inr (3, [.ref a0, .ref a1, .ref a2, .ref a3, .ref a4, .ref a5, .ref a6, .int 0, .ref a7, .ref a8, .ref a9, .ref a10, .ref a11, .int 0]))] s.heap.size = A at hD hAb ⊢
  have hA : ∀ q : Nat, s.heap.size ≤ q → A q := fun q h => by rw [← hAe]; exact Or.inr h
  have hS : va_S A s.heap s.heap [] := va_S.rf
  have hP : va_P D vwCl [(h0, .inr (3, [.ref a0, .ref a1, .ref a2, .ref a3, .ref a4, .ref a5, .ref a6, .int 0, .ref a7, .ref a8, .ref a9, .ref a10, .ref a11, .int 0]))] s.heap := hP
  have hl := lv_entry ([.ref h0, .int v0]) (n := 2) (Nat.le_of_ble_eq_true rfl)
  rw [lg_entry_eq]
  generalize (lg_sl ([.ref h0, .int v0]) ++ List.replicate (2 - (lg_sl ([.ref h0, .int v0])).length) Slot.unset).toArray = ls at hl ⊢
  have hl : lv_has ls 2 [(0, .ref h0), (1, .int v0)] := hl
  refine lv_aload_n hx hb dX3_isObject_0 rfl (lv_at hl 0 rfl) ?_
  refine lv_iload_n hx hb dX3_isObject_1 rfl (lv_at hl 1 rfl) ?_
  have hPc := hP.sub (ws' := [(h0, .inr (3, [.ref a0, .ref a1, .ref a2, .ref a3, .ref a4, .ref a5, .ref a6, .int 0, .ref a7, .ref a8, .ref a9, .ref a10, .ref a11, .int 0]))]) [0] rfl
  have hDc := hD.sub (ws' := [(h0, .inr (3, [.ref a0, .ref a1, .ref a2, .ref a3, .ref a4, .ref a5, .ref a6, .int 0, .ref a7, .ref a8, .ref a9, .ref a10, .ref a11, .int 0]))]) [0] (by decide) rfl
  have hFc := va_free (wc := [(h0, .inr (3, [.ref a0, .ref a1, .ref a2, .ref a3, .ref a4, .ref a5, .ref a6, .int 0, .ref a7, .ref a8, .ref a9, .ref a10, .ref a11, .int 0]))]) hD hS hA [0] rfl
  refine va_calli (va_runV (As := [.int v0]) (rest := []) ⟨hx, hb, hml, hown, ht⟩ (k3_rowOf0 l D C b0 s.heap.size h0 a0 a1 a2 a3 a4 a5 a6 a7 a8 a9 a10 a11 v0) (cwV 1 ht (xg_V m_255 m_256 m_257 m_258 m_157) rfl rfl rfl (by decide +kernel) ⟨Nat.le_of_ble_eq_true rfl, Nat.le_of_ble_eq_true rfl⟩) ⟨xPc_bl, va_recv hK hPc (ci := 3) (q0 := 0) rfl rfl, xPc_at hPc hK hDc hE hS hAb⟩ rfl rfl hl.1 rfl (lv_room (Nat.le_of_ble_eq_true rfl)) dX3_isObject_2 ⟨(by decide), (by decide)⟩) hS (fun q _ h => hFc q h) hFc (fun r_1 u_2 t H1 locs ht1 hvm hw hB hz1 hk1 hS => ?_)
  obtain ⟨hP1, hD1⟩ := hB
  rw [ht1] at hP1
  try dsimp only at hw
  obtain ⟨hP, hD⟩ := va_join (wr := []) (w1 := [(h0, .inr (3, [.ref a0, .ref a1, .ref a2, .ref a3, .ref a4, .ref a5, .ref a6, .int 0, .ref a7, .ref a8, .ref a9, .ref a10, .ref a11, .int 0]))]) hP hD [0] [] rfl rfl (by decide) (by decide) hk1 hFc hP1 hD1
  generalize H1 = H at hP hS ⊢
  have hP : va_P D vwCl [(h0, .inr (3, [.ref a0, .ref a1, .ref a2, .ref a3, .ref a4, .ref a5, .ref a6, .int 0, .ref a7, .ref a8, .ref a9, .ref a10, .ref a11, .int 0]))] H := hP
  have hD : va_D A [(h0, .inr (3, [.ref a0, .ref a1, .ref a2, .ref a3, .ref a4, .ref a5, .ref a6, .int 0, .ref a7, .ref a8, .ref a9, .ref a10, .ref a11, .int 0]))] := hD
  have hq_2 := hw
  obtain rfl : r_1 = (-1 : Int32) := hw
  refine lv_if_lt (tgt := 12) hx hb dX3_isObject_5 (by decide) (fun c_5 => ?_) (fun c_5 => ?_)
  rotate_left
  · exact absurd c_5 (by decide)
  refine lv_iconst (v := 0) hx hb dX3_isObject_12 (by decide) ?_
  have hP9 := hP.sub (ws' := [(h0, .inr (3, [.ref a0, .ref a1, .ref a2, .ref a3, .ref a4, .ref a5, .ref a6, .int 0, .ref a7, .ref a8, .ref a9, .ref a10, .ref a11, .int 0]))]) [0] rfl
  have hD9 := hD.sub (ws' := [(h0, .inr (3, [.ref a0, .ref a1, .ref a2, .ref a3, .ref a4, .ref a5, .ref a6, .int 0, .ref a7, .ref a8, .ref a9, .ref a10, .ref a11, .int 0]))]) [0] (by decide) rfl
  refine W.widen (k := 0) (n := 0) (by decide) (by decide) ?_
  exact W.zret (v := 0) (ty := .boolean) hx hb hr rfl (fun t ht1 hW => ⟨⟨0, (xA [], xF []), rfl, by first | trivial | rfl | assumption | decide | (simp_all; done), by rw [ht1]; exact hP9, hD9⟩, hS.F ht1⟩) hS.2.2 dX3_isObject_13
set_option maxHeartbeats 4000000 in
set_option maxRecDepth 100000 in
theorem k3_kindOf0 (l : Launch) (D : va_G) (C : Nat → ClassId) (b0 sz : Nat) (h0 : Nat) (a0 : Nat) (a1 : Nat) (a2 : Nat) (a3 : Nat) (a4 : Nat) (a5 : Nat) (a6 : Nat) (a7 : Nat) (a8 : Nat) (a9 : Nat) (a10 : Nat) (a11 : Nat) (v0 : Int32) : Met l yX3_kindOf (xw yX3_kindOf cX3_kindOf 3 (some .int)) ({ frames := 16, cells := 0, slots := 0, locals := 300 }) (xPc D C b0 [.ref h0, .int v0] [(h0, .inr (3, [.ref a0, .ref a1, .ref a2, .ref a3, .ref a4, .ref a5, .ref a6, .int 0, .ref a7, .ref a8, .ref a9, .ref a10, .ref a11, .int 0]))] sz) (va_Qi (fun (r : Int32) (u : xS) => r = 0) (xBw D (va_A [(h0, .inr (3, [.ref a0, .ref a1, .ref a2, .ref a3, .ref a4, .ref a5, .ref a6, .int 0, .ref a7, .ref a8, .ref a9, .ref a10, .ref a11, .int 0]))] sz) (fun u => [(h0, .inr (3, [.ref a0, .ref a1, .ref a2, .ref a3, .ref a4, .ref a5, .ref a6, .int 0, .ref a7, .ref a8, .ref a9, .ref a10, .ref a11, .int 0]))])) (va_A [(h0, .inr (3, [.ref a0, .ref a1, .ref a2, .ref a3, .ref a4, .ref a5, .ref a6, .int 0, .ref a7, .ref a8, .ref a9, .ref a10, .ref a11, .int 0]))] sz)) 0 0 (va_A [(h0, .inr (3, [.ref a0, .ref a1, .ref a2, .ref a3, .ref a4, .ref a5, .ref a6, .int 0, .ref a7, .ref a8, .ref a9, .ref a10, .ref a11, .int 0]))] sz) := by
  refine Met.ofW (cc := cX3_kindOf) (maxL := 3) (ret := (some .int)) (by decide) rfl ?_
  intro p e s m args below meth c s₁ B hml hv
  obtain ⟨rfl, hsz, hP, hK, hD0, hE⟩ := hv
  have hx := B.exec
  have hb := B.bytes
  have hr := B.returns
  have ht : ∀ w ∈ xb, w.before _ s = true := fun w h => atoms_spec (ws := xw yX3_kindOf cX3_kindOf 3 (some .int)) B.pre w (List.mem_cons_of_mem _ h)
  have hown : s.vm.findClass RX3 = some m.cls := findClass_of_methodNamed B.named
  have hlocks := B.notSynchronized
  subst hsz
  have hAb := x_Ab hD0 hE.1
  have hD := hD0.self (sz := s.heap.size)
  generalize hAe : va_A [(h0, .inr (3, [.ref a0, .ref a1, .ref a2, .ref a3, .ref a4, .ref a5, .ref a6, .int 0, .ref a7, .ref a8, .ref a9, .ref a10, .ref a11, .int 0]))] s.heap.size = A at hD hAb ⊢
  have hA : ∀ q : Nat, s.heap.size ≤ q → A q := fun q h => by rw [← hAe]; exact Or.inr h
  have hS : va_S A s.heap s.heap [] := va_S.rf
  have hP : va_P D vwCl [(h0, .inr (3, [.ref a0, .ref a1, .ref a2, .ref a3, .ref a4, .ref a5, .ref a6, .int 0, .ref a7, .ref a8, .ref a9, .ref a10, .ref a11, .int 0]))] s.heap := hP
  have hl := lv_entry ([.ref h0, .int v0]) (n := 3) (Nat.le_of_ble_eq_true rfl)
  rw [lg_entry_eq]
  generalize (lg_sl ([.ref h0, .int v0]) ++ List.replicate (3 - (lg_sl ([.ref h0, .int v0])).length) Slot.unset).toArray = ls at hl ⊢
  have hl : lv_has ls 3 [(0, .ref h0), (1, .int v0)] := hl
  refine lv_aload_n hx hb dX3_kindOf_0 rfl (lv_at hl 0 rfl) ?_
  refine lv_iload_n hx hb dX3_kindOf_1 rfl (lv_at hl 1 rfl) ?_
  have hPc := hP.sub (ws' := [(h0, .inr (3, [.ref a0, .ref a1, .ref a2, .ref a3, .ref a4, .ref a5, .ref a6, .int 0, .ref a7, .ref a8, .ref a9, .ref a10, .ref a11, .int 0]))]) [0] rfl
  have hDc := hD.sub (ws' := [(h0, .inr (3, [.ref a0, .ref a1, .ref a2, .ref a3, .ref a4, .ref a5, .ref a6, .int 0, .ref a7, .ref a8, .ref a9, .ref a10, .ref a11, .int 0]))]) [0] (by decide) rfl
  have hFc := va_free (wc := [(h0, .inr (3, [.ref a0, .ref a1, .ref a2, .ref a3, .ref a4, .ref a5, .ref a6, .int 0, .ref a7, .ref a8, .ref a9, .ref a10, .ref a11, .int 0]))]) hD hS hA [0] rfl
  refine va_calli (va_runV (As := [.int v0]) (rest := []) ⟨hx, hb, hml, hown, ht⟩ (k3_rowOf0 l D C b0 s.heap.size h0 a0 a1 a2 a3 a4 a5 a6 a7 a8 a9 a10 a11 v0) (cwV 1 ht (xg_V m_255 m_256 m_257 m_258 m_157) rfl rfl rfl (by decide +kernel) ⟨Nat.le_of_ble_eq_true rfl, Nat.le_of_ble_eq_true rfl⟩) ⟨xPc_bl, va_recv hK hPc (ci := 3) (q0 := 0) rfl rfl, xPc_at hPc hK hDc hE hS hAb⟩ rfl rfl hl.1 rfl (lv_room (Nat.le_of_ble_eq_true rfl)) dX3_kindOf_2 ⟨(by decide), (by decide)⟩) hS (fun q _ h => hFc q h) hFc (fun r_1 u_2 t H1 locs ht1 hvm hw hB hz1 hk1 hS => ?_)
  obtain ⟨hP1, hD1⟩ := hB
  rw [ht1] at hP1
  try dsimp only at hw
  obtain ⟨hP, hD⟩ := va_join (wr := []) (w1 := [(h0, .inr (3, [.ref a0, .ref a1, .ref a2, .ref a3, .ref a4, .ref a5, .ref a6, .int 0, .ref a7, .ref a8, .ref a9, .ref a10, .ref a11, .int 0]))]) hP hD [0] [] rfl rfl (by decide) (by decide) hk1 hFc hP1 hD1
  generalize H1 = H at hP hS ⊢
  have hP : va_P D vwCl [(h0, .inr (3, [.ref a0, .ref a1, .ref a2, .ref a3, .ref a4, .ref a5, .ref a6, .int 0, .ref a7, .ref a8, .ref a9, .ref a10, .ref a11, .int 0]))] H := hP
  have hD : va_D A [(h0, .inr (3, [.ref a0, .ref a1, .ref a2, .ref a3, .ref a4, .ref a5, .ref a6, .int 0, .ref a7, .ref a8, .ref a9, .ref a10, .ref a11, .int 0]))] := hD
  have hq_2 := hw
  obtain rfl : r_1 = (-1 : Int32) := hw
  refine lv_istore_n (lv' := [(2, .int (-1)), (0, .ref h0), (1, .int v0)]) hx hb dX3_kindOf_5 rfl hl (by decide) rfl (fun ls hl => ?_)
  refine lv_iload_n hx hb dX3_kindOf_6 rfl (lv_at hl 0 rfl) ?_
  refine lv_if_lt (tgt := 19) hx hb dX3_kindOf_7 (by decide) (fun c_7 => ?_) (fun c_7 => ?_)
  rotate_left
  · exact absurd c_7 (by decide)
  refine lv_iconst (v := 0) hx hb dX3_kindOf_19 (by decide) ?_
  have hP9 := hP.sub (ws' := [(h0, .inr (3, [.ref a0, .ref a1, .ref a2, .ref a3, .ref a4, .ref a5, .ref a6, .int 0, .ref a7, .ref a8, .ref a9, .ref a10, .ref a11, .int 0]))]) [0] rfl
  have hD9 := hD.sub (ws' := [(h0, .inr (3, [.ref a0, .ref a1, .ref a2, .ref a3, .ref a4, .ref a5, .ref a6, .int 0, .ref a7, .ref a8, .ref a9, .ref a10, .ref a11, .int 0]))]) [0] (by decide) rfl
  refine W.widen (k := 0) (n := 0) (by decide) (by decide) ?_
  exact W.iret (v := 0) hx hb hr (fun t ht1 hW => ⟨⟨0, (xA [], xF []), rfl, by first | trivial | rfl | assumption | decide | (simp_all; done), by rw [ht1]; exact hP9, hD9⟩, hS.F ht1⟩) hS.2.2 dX3_kindOf_20
set_option maxHeartbeats 4000000 in
set_option maxRecDepth 100000 in
theorem k3_isProxy0 (l : Launch) (D : va_G) (C : Nat → ClassId) (b0 sz : Nat) (h0 : Nat) (a0 : Nat) (a1 : Nat) (a2 : Nat) (a3 : Nat) (a4 : Nat) (a5 : Nat) (a6 : Nat) (a7 : Nat) (a8 : Nat) (a9 : Nat) (a10 : Nat) (a11 : Nat) (v0 : Int32) : Met l yX3_isProxy (xw yX3_isProxy cX3_isProxy 2 (some .boolean)) ({ frames := 24, cells := 0, slots := 0, locals := 450 }) (xPc D C b0 [.ref h0, .int v0] [(h0, .inr (3, [.ref a0, .ref a1, .ref a2, .ref a3, .ref a4, .ref a5, .ref a6, .int 0, .ref a7, .ref a8, .ref a9, .ref a10, .ref a11, .int 0]))] sz) (va_Qi (fun (r : Int32) (u : xS) => r = 0) (xBw D (va_A [(h0, .inr (3, [.ref a0, .ref a1, .ref a2, .ref a3, .ref a4, .ref a5, .ref a6, .int 0, .ref a7, .ref a8, .ref a9, .ref a10, .ref a11, .int 0]))] sz) (fun u => [(h0, .inr (3, [.ref a0, .ref a1, .ref a2, .ref a3, .ref a4, .ref a5, .ref a6, .int 0, .ref a7, .ref a8, .ref a9, .ref a10, .ref a11, .int 0]))])) (va_A [(h0, .inr (3, [.ref a0, .ref a1, .ref a2, .ref a3, .ref a4, .ref a5, .ref a6, .int 0, .ref a7, .ref a8, .ref a9, .ref a10, .ref a11, .int 0]))] sz)) 0 0 (va_A [(h0, .inr (3, [.ref a0, .ref a1, .ref a2, .ref a3, .ref a4, .ref a5, .ref a6, .int 0, .ref a7, .ref a8, .ref a9, .ref a10, .ref a11, .int 0]))] sz) := by
  refine Met.ofW (cc := cX3_isProxy) (maxL := 2) (ret := (some .boolean)) (by decide) rfl ?_
  intro p e s m args below meth c s₁ B hml hv
  obtain ⟨rfl, hsz, hP, hK, hD0, hE⟩ := hv
  have hx := B.exec
  have hb := B.bytes
  have hr := B.returns
  have ht : ∀ w ∈ xb, w.before _ s = true := fun w h => atoms_spec (ws := xw yX3_isProxy cX3_isProxy 2 (some .boolean)) B.pre w (List.mem_cons_of_mem _ h)
  have hown : s.vm.findClass RX3 = some m.cls := findClass_of_methodNamed B.named
  have hlocks := B.notSynchronized
  subst hsz
  have hAb := x_Ab hD0 hE.1
  have hD := hD0.self (sz := s.heap.size)
  generalize hAe : va_A [(h0, .inr (3, [.ref a0, .ref a1, .ref a2, .ref a3, .ref a4, .ref a5, .ref a6, .int 0, .ref a7, .ref a8, .ref a9, .ref a10, .ref a11, .int 0]))] s.heap.size = A at hD hAb ⊢
  have hA : ∀ q : Nat, s.heap.size ≤ q → A q := fun q h => by rw [← hAe]; exact Or.inr h
  have hS : va_S A s.heap s.heap [] := va_S.rf
  have hP : va_P D vwCl [(h0, .inr (3, [.ref a0, .ref a1, .ref a2, .ref a3, .ref a4, .ref a5, .ref a6, .int 0, .ref a7, .ref a8, .ref a9, .ref a10, .ref a11, .int 0]))] s.heap := hP
  have hl := lv_entry ([.ref h0, .int v0]) (n := 2) (Nat.le_of_ble_eq_true rfl)
  rw [lg_entry_eq]
  generalize (lg_sl ([.ref h0, .int v0]) ++ List.replicate (2 - (lg_sl ([.ref h0, .int v0])).length) Slot.unset).toArray = ls at hl ⊢
  have hl : lv_has ls 2 [(0, .ref h0), (1, .int v0)] := hl
  refine lv_aload_n hx hb dX3_isProxy_0 rfl (lv_at hl 0 rfl) ?_
  refine lv_iload_n hx hb dX3_isProxy_1 rfl (lv_at hl 1 rfl) ?_
  have hPc := hP.sub (ws' := [(h0, .inr (3, [.ref a0, .ref a1, .ref a2, .ref a3, .ref a4, .ref a5, .ref a6, .int 0, .ref a7, .ref a8, .ref a9, .ref a10, .ref a11, .int 0]))]) [0] rfl
  have hDc := hD.sub (ws' := [(h0, .inr (3, [.ref a0, .ref a1, .ref a2, .ref a3, .ref a4, .ref a5, .ref a6, .int 0, .ref a7, .ref a8, .ref a9, .ref a10, .ref a11, .int 0]))]) [0] (by decide) rfl
  have hFc := va_free (wc := [(h0, .inr (3, [.ref a0, .ref a1, .ref a2, .ref a3, .ref a4, .ref a5, .ref a6, .int 0, .ref a7, .ref a8, .ref a9, .ref a10, .ref a11, .int 0]))]) hD hS hA [0] rfl
  refine va_calli (va_runV (As := [.int v0]) (rest := []) ⟨hx, hb, hml, hown, ht⟩ (k3_kindOf0 l D C b0 s.heap.size h0 a0 a1 a2 a3 a4 a5 a6 a7 a8 a9 a10 a11 v0) (cwV 1 ht (xg_V m_259 m_260 m_261 m_258 m_159) rfl rfl rfl (by decide +kernel) ⟨Nat.le_of_ble_eq_true rfl, Nat.le_of_ble_eq_true rfl⟩) ⟨xPc_bl, va_recv hK hPc (ci := 3) (q0 := 0) rfl rfl, xPc_at hPc hK hDc hE hS hAb⟩ rfl rfl hl.1 rfl (lv_room (Nat.le_of_ble_eq_true rfl)) dX3_isProxy_2 ⟨(by decide), (by decide)⟩) hS (fun q _ h => hFc q h) hFc (fun r_1 u_2 t H1 locs ht1 hvm hw hB hz1 hk1 hS => ?_)
  obtain ⟨hP1, hD1⟩ := hB
  rw [ht1] at hP1
  try dsimp only at hw
  obtain ⟨hP, hD⟩ := va_join (wr := []) (w1 := [(h0, .inr (3, [.ref a0, .ref a1, .ref a2, .ref a3, .ref a4, .ref a5, .ref a6, .int 0, .ref a7, .ref a8, .ref a9, .ref a10, .ref a11, .int 0]))]) hP hD [0] [] rfl rfl (by decide) (by decide) hk1 hFc hP1 hD1
  generalize H1 = H at hP hS ⊢
  have hP : va_P D vwCl [(h0, .inr (3, [.ref a0, .ref a1, .ref a2, .ref a3, .ref a4, .ref a5, .ref a6, .int 0, .ref a7, .ref a8, .ref a9, .ref a10, .ref a11, .int 0]))] H := hP
  have hD : va_D A [(h0, .inr (3, [.ref a0, .ref a1, .ref a2, .ref a3, .ref a4, .ref a5, .ref a6, .int 0, .ref a7, .ref a8, .ref a9, .ref a10, .ref a11, .int 0]))] := hD
  have hq_2 := hw
  obtain rfl : r_1 = (0 : Int32) := hw
  refine lv_iconst (v := 4) hx hb dX3_isProxy_5 (by decide) ?_
  refine lv_icmp_ne (tgt := 13) hx hb dX3_isProxy_6 (by decide) (fun c_6 => ?_) (fun c_6 => ?_)
  rotate_left
  · exact absurd c_6 (by decide)
  refine lv_iconst (v := 0) hx hb dX3_isProxy_13 (by decide) ?_
  have hP9 := hP.sub (ws' := [(h0, .inr (3, [.ref a0, .ref a1, .ref a2, .ref a3, .ref a4, .ref a5, .ref a6, .int 0, .ref a7, .ref a8, .ref a9, .ref a10, .ref a11, .int 0]))]) [0] rfl
  have hD9 := hD.sub (ws' := [(h0, .inr (3, [.ref a0, .ref a1, .ref a2, .ref a3, .ref a4, .ref a5, .ref a6, .int 0, .ref a7, .ref a8, .ref a9, .ref a10, .ref a11, .int 0]))]) [0] (by decide) rfl
  refine W.widen (k := 0) (n := 0) (by decide) (by decide) ?_
  exact W.zret (v := 0) (ty := .boolean) hx hb hr rfl (fun t ht1 hW => ⟨⟨0, (xA [], xF []), rfl, by first | trivial | rfl | assumption | decide | (simp_all; done), by rw [ht1]; exact hP9, hD9⟩, hS.F ht1⟩) hS.2.2 dX3_isProxy_14
set_option maxHeartbeats 4000000 in
set_option maxRecDepth 100000 in
theorem k3_size0 (l : Launch) (D : va_G) (C : Nat → ClassId) (b0 sz : Nat) (h0 : Nat) (a0 : Nat) (a1 : Nat) (a2 : Nat) (a3 : Nat) (a4 : Nat) (a5 : Nat) (a6 : Nat) (a7 : Nat) (a8 : Nat) (a9 : Nat) (a10 : Nat) (a11 : Nat) : Met l yX3_size (xw yX3_size cX3_size 1 (some .int)) ({ frames := 8, cells := 0, slots := 0, locals := 150 }) (xPc D C b0 [.ref h0] [(h0, .inr (3, [.ref a0, .ref a1, .ref a2, .ref a3, .ref a4, .ref a5, .ref a6, .int 0, .ref a7, .ref a8, .ref a9, .ref a10, .ref a11, .int 0]))] sz) (va_Qi (fun (r : Int32) (u : xS) => r = 0) (xBw D (va_A [(h0, .inr (3, [.ref a0, .ref a1, .ref a2, .ref a3, .ref a4, .ref a5, .ref a6, .int 0, .ref a7, .ref a8, .ref a9, .ref a10, .ref a11, .int 0]))] sz) (fun u => [(h0, .inr (3, [.ref a0, .ref a1, .ref a2, .ref a3, .ref a4, .ref a5, .ref a6, .int 0, .ref a7, .ref a8, .ref a9, .ref a10, .ref a11, .int 0]))])) (va_A [(h0, .inr (3, [.ref a0, .ref a1, .ref a2, .ref a3, .ref a4, .ref a5, .ref a6, .int 0, .ref a7, .ref a8, .ref a9, .ref a10, .ref a11, .int 0]))] sz)) 0 0 (va_A [(h0, .inr (3, [.ref a0, .ref a1, .ref a2, .ref a3, .ref a4, .ref a5, .ref a6, .int 0, .ref a7, .ref a8, .ref a9, .ref a10, .ref a11, .int 0]))] sz) := by
  refine Met.ofW (cc := cX3_size) (maxL := 1) (ret := (some .int)) (by decide) rfl ?_
  intro p e s m args below meth c s₁ B hml hv
  obtain ⟨rfl, hsz, hP, hK, hD0, hE⟩ := hv
  have hx := B.exec
  have hb := B.bytes
  have hr := B.returns
  have ht : ∀ w ∈ xb, w.before _ s = true := fun w h => atoms_spec (ws := xw yX3_size cX3_size 1 (some .int)) B.pre w (List.mem_cons_of_mem _ h)
  have hown : s.vm.findClass RX3 = some m.cls := findClass_of_methodNamed B.named
  have hlocks := B.notSynchronized
  subst hsz
  have hAb := x_Ab hD0 hE.1
  have hD := hD0.self (sz := s.heap.size)
  generalize hAe : va_A [(h0, .inr (3, [.ref a0, .ref a1, .ref a2, .ref a3, .ref a4, .ref a5, .ref a6, .int 0, .ref a7, .ref a8, .ref a9, .ref a10, .ref a11, .int 0]))] s.heap.size = A at hD hAb ⊢
  have hA : ∀ q : Nat, s.heap.size ≤ q → A q := fun q h => by rw [← hAe]; exact Or.inr h
  have hS : va_S A s.heap s.heap [] := va_S.rf
  have hP : va_P D vwCl [(h0, .inr (3, [.ref a0, .ref a1, .ref a2, .ref a3, .ref a4, .ref a5, .ref a6, .int 0, .ref a7, .ref a8, .ref a9, .ref a10, .ref a11, .int 0]))] s.heap := hP
  have hl := lv_entry ([.ref h0]) (n := 1) (Nat.le_of_ble_eq_true rfl)
  rw [lg_entry_eq]
  generalize (lg_sl ([.ref h0]) ++ List.replicate (1 - (lg_sl ([.ref h0])).length) Slot.unset).toArray = ls at hl ⊢
  have hl : lv_has ls 1 [(0, .ref h0)] := hl
  refine lv_aload_n hx hb dX3_size_0 rfl (lv_at hl 0 rfl) ?_
  refine va_get (D := D) (ci := 3) (v := .int 0) (C := RX3) (T := TX3) (N := 14) hx hb ht inX3 hown hK hP 0 rfl rfl 7 (by decide) (ht _ m_254) (fun _ h9 => h9) rfl dX3_size_1 ?_
  have hP9 := hP.sub (ws' := [(h0, .inr (3, [.ref a0, .ref a1, .ref a2, .ref a3, .ref a4, .ref a5, .ref a6, .int 0, .ref a7, .ref a8, .ref a9, .ref a10, .ref a11, .int 0]))]) [0] rfl
  have hD9 := hD.sub (ws' := [(h0, .inr (3, [.ref a0, .ref a1, .ref a2, .ref a3, .ref a4, .ref a5, .ref a6, .int 0, .ref a7, .ref a8, .ref a9, .ref a10, .ref a11, .int 0]))]) [0] (by decide) rfl
  refine W.widen (k := 0) (n := 0) (by decide) (by decide) ?_
  exact W.iret (v := 0) hx hb hr (fun t ht1 hW => ⟨⟨0, (xA [], xF []), rfl, by first | trivial | rfl | assumption | decide | (simp_all; done), by rw [ht1]; exact hP9, hD9⟩, hS.F ht1⟩) hS.2.2 dX3_size_4
set_option maxHeartbeats 4000000 in
set_option maxRecDepth 100000 in
theorem k5_begin (l : Launch) (D : va_G) (C : Nat → ClassId) (b0 sz : Nat) (h0 : Nat) (s0 : Nat) (de : Nat) (kl : Nat) (tl : Nat) (cu : Nat) (hk : Nat) (ca : Nat) (kx : Nat) (ky : Nat) (tx : Nat) (ty : Nat) : Met l yX5_begin (xw yX5_begin cX5_begin 1 none) ({ frames := 16, cells := 0, slots := 0, locals := 300 }) (xPc D C b0 [.ref h0] [(h0, .inr (5, [.ref s0, .ref de, .ref kl, .ref tl, .ref cu, .ref hk, .ref ca, .int 0, .int 0, .int (-1), .int 0, .int 0])), (kl, .inr (2, [.ref kx, .ref ky, .int 0])), (tl, .inr (4, [.ref tx, .ref ty, .int 1]))] sz) (va_Qv (fun u : xS => True) (xBw D (va_A [(h0, .inr (5, [.ref s0, .ref de, .ref kl, .ref tl, .ref cu, .ref hk, .ref ca, .int 0, .int 0, .int (-1), .int 0, .int 0])), (kl, .inr (2, [.ref kx, .ref ky, .int 0])), (tl, .inr (4, [.ref tx, .ref ty, .int 1]))] sz) (fun u => [(h0, .inr (5, [.ref s0, .ref de, .ref kl, .ref tl, .ref cu, .ref hk, .ref ca, .int 0, .int 0, .int (-1), .int 0, .int 0])), (kl, .inr (2, [.ref kx, .ref ky, .int 0])), (tl, .inr (4, [.ref tx, .ref ty, .int 2]))])) (va_A [(h0, .inr (5, [.ref s0, .ref de, .ref kl, .ref tl, .ref cu, .ref hk, .ref ca, .int 0, .int 0, .int (-1), .int 0, .int 0])), (kl, .inr (2, [.ref kx, .ref ky, .int 0])), (tl, .inr (4, [.ref tx, .ref ty, .int 1]))] sz)) 0 0 (va_A [(h0, .inr (5, [.ref s0, .ref de, .ref kl, .ref tl, .ref cu, .ref hk, .ref ca, .int 0, .int 0, .int (-1), .int 0, .int 0])), (kl, .inr (2, [.ref kx, .ref ky, .int 0])), (tl, .inr (4, [.ref tx, .ref ty, .int 1]))] sz) := by
  refine Met.ofW (cc := cX5_begin) (maxL := 1) (ret := none) (by decide) rfl ?_
  intro p e s m args below meth c s₁ B hml hv
  obtain ⟨rfl, hsz, hP, hK, hD0, hE⟩ := hv
  have hx := B.exec
  have hb := B.bytes
  have hr := B.returns
  have ht : ∀ w ∈ xb, w.before _ s = true := fun w h => atoms_spec (ws := xw yX5_begin cX5_begin 1 none) B.pre w (List.mem_cons_of_mem _ h)
  have hown : s.vm.findClass RX5 = some m.cls := findClass_of_methodNamed B.named
  have hlocks := B.notSynchronized
  subst hsz
  have hAb := x_Ab hD0 hE.1
  have hD := hD0.self (sz := s.heap.size)
  generalize hAe : va_A [(h0, .inr (5, [.ref s0, .ref de, .ref kl, .ref tl, .ref cu, .ref hk, .ref ca, .int 0, .int 0, .int (-1), .int 0, .int 0])), (kl, .inr (2, [.ref kx, .ref ky, .int 0])), (tl, .inr (4, [.ref tx, .ref ty, .int 1]))] s.heap.size = A at hD hAb ⊢
  have hA : ∀ q : Nat, s.heap.size ≤ q → A q := fun q h => by rw [← hAe]; exact Or.inr h
  have hS : va_S A s.heap s.heap [] := va_S.rf
  have hP : va_P D vwCl [(h0, .inr (5, [.ref s0, .ref de, .ref kl, .ref tl, .ref cu, .ref hk, .ref ca, .int 0, .int 0, .int (-1), .int 0, .int 0])), (kl, .inr (2, [.ref kx, .ref ky, .int 0])), (tl, .inr (4, [.ref tx, .ref ty, .int 1]))] s.heap := hP
  have hl := lv_entry ([.ref h0]) (n := 1) (Nat.le_of_ble_eq_true rfl)
  rw [lg_entry_eq]
  generalize (lg_sl ([.ref h0]) ++ List.replicate (1 - (lg_sl ([.ref h0])).length) Slot.unset).toArray = ls at hl ⊢
  have hl : lv_has ls 1 [(0, .ref h0)] := hl
  refine lv_aload_n hx hb dX5_begin_0 rfl (lv_at hl 0 rfl) ?_
  refine lv_iconst (v := 0) hx hb dX5_begin_1 (by decide) ?_
  refine va_put (D := D) (ci := 5) (v := .int 0) (ty := tyX5 10) (C := RX5) (T := TX5) (N := 12) hx hb ht inX5 tyX5 tyX5_ok nmX5 hown hK hP hD hS 0 rfl rfl 10 (by decide) (ht _ m_262) (fun _ h9 => h9) rfl (by decide +kernel) rfl rfl (Nat.le_of_ble_eq_true rfl) dX5_begin_2 (fun H locs hP hD hS => ?_)
  have hP : va_P D vwCl [(h0, .inr (5, [.ref s0, .ref de, .ref kl, .ref tl, .ref cu, .ref hk, .ref ca, .int 0, .int 0, .int (-1), .int 0, .int 0])), (kl, .inr (2, [.ref kx, .ref ky, .int 0])), (tl, .inr (4, [.ref tx, .ref ty, .int 1]))] H := hP
  have hD : va_D A [(h0, .inr (5, [.ref s0, .ref de, .ref kl, .ref tl, .ref cu, .ref hk, .ref ca, .int 0, .int 0, .int (-1), .int 0, .int 0])), (kl, .inr (2, [.ref kx, .ref ky, .int 0])), (tl, .inr (4, [.ref tx, .ref ty, .int 1]))] := hD
  refine lv_aload_n hx hb dX5_begin_5 rfl (lv_at hl 0 rfl) ?_
  refine lv_iconst (v := 0) hx hb dX5_begin_6 (by decide) ?_
  refine va_put (D := D) (ci := 5) (v := .int 0) (ty := tyX5 8) (C := RX5) (T := TX5) (N := 12) hx hb ht inX5 tyX5 tyX5_ok nmX5 hown hK hP hD hS 0 rfl rfl 8 (by decide) (ht _ m_263) (fun _ h9 => h9) rfl (by decide +kernel) rfl rfl (Nat.le_of_ble_eq_true rfl) dX5_begin_7 (fun H locs hP hD hS => ?_)
  have hP : va_P D vwCl [(h0, .inr (5, [.ref s0, .ref de, .ref kl, .ref tl, .ref cu, .ref hk, .ref ca, .int 0, .int 0, .int (-1), .int 0, .int 0])), (kl, .inr (2, [.ref kx, .ref ky, .int 0])), (tl, .inr (4, [.ref tx, .ref ty, .int 1]))] H := hP
  have hD : va_D A [(h0, .inr (5, [.ref s0, .ref de, .ref kl, .ref tl, .ref cu, .ref hk, .ref ca, .int 0, .int 0, .int (-1), .int 0, .int 0])), (kl, .inr (2, [.ref kx, .ref ky, .int 0])), (tl, .inr (4, [.ref tx, .ref ty, .int 1]))] := hD
  refine lv_aload_n hx hb dX5_begin_10 rfl (lv_at hl 0 rfl) ?_
  refine va_get (D := D) (ci := 5) (v := .ref kl) (C := RX5) (T := TX5) (N := 12) hx hb ht inX5 hown hK hP 0 rfl rfl 2 (by decide) (ht _ m_264) (fun _ h9 => h9) rfl dX5_begin_11 ?_
  refine lv_iconst (v := 0) hx hb dX5_begin_14 (by decide) ?_
  have hPc := hP.sub (ws' := [(kl, .inr (2, [.ref kx, .ref ky, .int 0]))]) [1] rfl
  have hDc := hD.sub (ws' := [(kl, .inr (2, [.ref kx, .ref ky, .int 0]))]) [1] (by decide) rfl
  have hFc := va_free (wc := [(kl, .inr (2, [.ref kx, .ref ky, .int 0]))]) hD hS hA [1] rfl
  refine va_callv (va_runV (As := [.int 0]) (rest := []) ⟨hx, hb, hml, hown, ht⟩ (k2_cutTo l D C b0 H.size kl kx ky) (cwV 1 ht (xg_V m_265 m_266 m_267 m_268 m_155) rfl rfl rfl (by decide +kernel) ⟨Nat.le_of_ble_eq_true rfl, Nat.le_of_ble_eq_true rfl⟩) ⟨xPc_bl, va_recv hK hPc (ci := 2) (q0 := 0) rfl rfl, xPc_at hPc hK hDc hE hS hAb⟩ rfl rfl hl.1 rfl (lv_room (Nat.le_of_ble_eq_true rfl)) dX5_begin_15 ⟨(by decide), (by decide)⟩) hS (fun q _ h => hFc q h) hFc (fun u_1 t H1 locs ht1 hvm hw hB hz1 hk1 hS => ?_)
  obtain ⟨hP1, hD1⟩ := hB
  rw [ht1] at hP1
  try dsimp only at hw
  obtain ⟨hP, hD⟩ := va_join (wr := [(h0, .inr (5, [.ref s0, .ref de, .ref kl, .ref tl, .ref cu, .ref hk, .ref ca, .int 0, .int 0, .int (-1), .int 0, .int 0])), (tl, .inr (4, [.ref tx, .ref ty, .int 1]))]) (w1 := [(kl, .inr (2, [.ref kx, .ref ky, .int 0]))]) hP hD [1] [0, 2] rfl rfl (by decide) (by decide) hk1 hFc hP1 hD1
  generalize H1 = H at hP hS ⊢
  have hP : va_P D vwCl [(h0, .inr (5, [.ref s0, .ref de, .ref kl, .ref tl, .ref cu, .ref hk, .ref ca, .int 0, .int 0, .int (-1), .int 0, .int 0])), (tl, .inr (4, [.ref tx, .ref ty, .int 1])), (kl, .inr (2, [.ref kx, .ref ky, .int 0]))] H := hP
  have hD : va_D A [(h0, .inr (5, [.ref s0, .ref de, .ref kl, .ref tl, .ref cu, .ref hk, .ref ca, .int 0, .int 0, .int (-1), .int 0, .int 0])), (tl, .inr (4, [.ref tx, .ref ty, .int 1])), (kl, .inr (2, [.ref kx, .ref ky, .int 0]))] := hD
  have hq_15 := hw
  refine lv_aload_n hx hb dX5_begin_18 rfl (lv_at hl 0 rfl) ?_
  refine va_get (D := D) (ci := 5) (v := .ref tl) (C := RX5) (T := TX5) (N := 12) hx hb ht inX5 hown hK hP 0 rfl rfl 3 (by decide) (ht _ m_269) (fun _ h9 => h9) rfl dX5_begin_19 ?_
  have hPc := hP.sub (ws' := [(tl, .inr (4, [.ref tx, .ref ty, .int 1]))]) [1] rfl
  have hDc := hD.sub (ws' := [(tl, .inr (4, [.ref tx, .ref ty, .int 1]))]) [1] (by decide) rfl
  have hFc := va_free (wc := [(tl, .inr (4, [.ref tx, .ref ty, .int 1]))]) hD hS hA [1] rfl
  refine va_callv (va_runV (As := []) (rest := []) ⟨hx, hb, hml, hown, ht⟩ (k4_forget l D C b0 H.size tl tx ty) (cwV 0 ht (xg_V m_270 m_271 m_272 m_273 m_156) rfl rfl rfl (by decide +kernel) ⟨Nat.le_of_ble_eq_true rfl, Nat.le_of_ble_eq_true rfl⟩) ⟨xPc_bl, va_recv hK hPc (ci := 4) (q0 := 0) rfl rfl, xPc_at hPc hK hDc hE hS hAb⟩ rfl rfl hl.1 rfl (lv_room (Nat.le_of_ble_eq_true rfl)) dX5_begin_22 ⟨(by decide), (by decide)⟩) hS (fun q _ h => hFc q h) hFc (fun u_2 t H1 locs ht1 hvm hw hB hz1 hk1 hS => ?_)
  obtain ⟨hP1, hD1⟩ := hB
  rw [ht1] at hP1
  try dsimp only at hw
  obtain ⟨hP, hD⟩ := va_join (wr := [(h0, .inr (5, [.ref s0, .ref de, .ref kl, .ref tl, .ref cu, .ref hk, .ref ca, .int 0, .int 0, .int (-1), .int 0, .int 0])), (kl, .inr (2, [.ref kx, .ref ky, .int 0]))]) (w1 := [(tl, .inr (4, [.ref tx, .ref ty, .int 2]))]) hP hD [1] [0, 2] rfl rfl (by decide) (by decide) hk1 hFc hP1 hD1
  generalize H1 = H at hP hS ⊢
  have hP : va_P D vwCl [(h0, .inr (5, [.ref s0, .ref de, .ref kl, .ref tl, .ref cu, .ref hk, .ref ca, .int 0, .int 0, .int (-1), .int 0, .int 0])), (kl, .inr (2, [.ref kx, .ref ky, .int 0])), (tl, .inr (4, [.ref tx, .ref ty, .int 2]))] H := hP
  have hD : va_D A [(h0, .inr (5, [.ref s0, .ref de, .ref kl, .ref tl, .ref cu, .ref hk, .ref ca, .int 0, .int 0, .int (-1), .int 0, .int 0])), (kl, .inr (2, [.ref kx, .ref ky, .int 0])), (tl, .inr (4, [.ref tx, .ref ty, .int 2]))] := hD
  have hq_22 := hw
  have hP9 := hP.sub (ws' := [(h0, .inr (5, [.ref s0, .ref de, .ref kl, .ref tl, .ref cu, .ref hk, .ref ca, .int 0, .int 0, .int (-1), .int 0, .int 0])), (kl, .inr (2, [.ref kx, .ref ky, .int 0])), (tl, .inr (4, [.ref tx, .ref ty, .int 2]))]) [0, 1, 2] rfl
  have hD9 := hD.sub (ws' := [(h0, .inr (5, [.ref s0, .ref de, .ref kl, .ref tl, .ref cu, .ref hk, .ref ca, .int 0, .int 0, .int (-1), .int 0, .int 0])), (kl, .inr (2, [.ref kx, .ref ky, .int 0])), (tl, .inr (4, [.ref tx, .ref ty, .int 2]))]) [0, 1, 2] (by decide) rfl
  refine W.widen (k := 0) (n := 0) (by decide) (by decide) ?_
  exact W.vret hx hb hr (fun t ht1 hW => ⟨⟨(xA [], xF []), rfl, by first | trivial | rfl | assumption | decide | (simp_all; done), by rw [ht1]; exact hP9, hD9⟩, hS.F ht1⟩) hS.2.2 dX5_begin_25
set_option maxHeartbeats 4000000 in
set_option maxRecDepth 100000 in
theorem k5_requireObject (l : Launch) (hl0 : l.stackTraces = false) (D : va_G) (C : Nat → ClassId) (b0 sz : Nat) (h0 : Nat) (s0 : Nat) (de : Nat) (kl : Nat) (tl : Nat) (cu : Nat) (hk : Nat) (ca : Nat) (a0 : Nat) (a1 : Nat) (a2 : Nat) (a3 : Nat) (a4 : Nat) (a5 : Nat) (a6 : Nat) (a7 : Nat) (a8 : Nat) (a9 : Nat) (a10 : Nat) (a11 : Nat) (v0 : Int32) : vx_Met l yX5_requireObject (xw yX5_requireObject cX5_requireObject 2 none) ({ frames := 32, cells := 1, slots := 6, locals := 600 }) (xPc D C b0 [.ref h0, .int v0] [(h0, .inr (5, [.ref s0, .ref de, .ref kl, .ref tl, .ref cu, .ref hk, .ref ca, .int 0, .int 0, .int (-1), .int 0, .int 0])), (s0, .inr (3, [.ref a0, .ref a1, .ref a2, .ref a3, .ref a4, .ref a5, .ref a6, .int 0, .ref a7, .ref a8, .ref a9, .ref a10, .ref a11, .int 0]))] sz) (va_Qv (fun u : xS => False) (xBw D (va_A [(h0, .inr (5, [.ref s0, .ref de, .ref kl, .ref tl, .ref cu, .ref hk, .ref ca, .int 0, .int 0, .int (-1), .int 0, .int 0])), (s0, .inr (3, [.ref a0, .ref a1, .ref a2, .ref a3, .ref a4, .ref a5, .ref a6, .int 0, .ref a7, .ref a8, .ref a9, .ref a10, .ref a11, .int 0]))] sz) (fun u => [(h0, .inr (5, [.ref s0, .ref de, .ref kl, .ref tl, .ref cu, .ref hk, .ref ca, .int 0, .int 0, .int (-1), .int 0, .int 0])), (s0, .inr (3, [.ref a0, .ref a1, .ref a2, .ref a3, .ref a4, .ref a5, .ref a6, .int 0, .ref a7, .ref a8, .ref a9, .ref a10, .ref a11, .int 0]))])) (va_A [(h0, .inr (5, [.ref s0, .ref de, .ref kl, .ref tl, .ref cu, .ref hk, .ref ca, .int 0, .int 0, .int (-1), .int 0, .int 0])), (s0, .inr (3, [.ref a0, .ref a1, .ref a2, .ref a3, .ref a4, .ref a5, .ref a6, .int 0, .ref a7, .ref a8, .ref a9, .ref a10, .ref a11, .int 0]))] sz)) (xX xIAE (True) (va_A [(h0, .inr (5, [.ref s0, .ref de, .ref kl, .ref tl, .ref cu, .ref hk, .ref ca, .int 0, .int 0, .int (-1), .int 0, .int 0])), (s0, .inr (3, [.ref a0, .ref a1, .ref a2, .ref a3, .ref a4, .ref a5, .ref a6, .int 0, .ref a7, .ref a8, .ref a9, .ref a10, .ref a11, .int 0]))] sz)) 1 6 (va_A [(h0, .inr (5, [.ref s0, .ref de, .ref kl, .ref tl, .ref cu, .ref hk, .ref ca, .int 0, .int 0, .int (-1), .int 0, .int 0])), (s0, .inr (3, [.ref a0, .ref a1, .ref a2, .ref a3, .ref a4, .ref a5, .ref a6, .int 0, .ref a7, .ref a8, .ref a9, .ref a10, .ref a11, .int 0]))] sz) := by
  refine vx_ofW (cc := cX5_requireObject) (maxL := 2) (ret := none) (by decide) rfl ?_
  intro p e s m args below meth c s₁ B hml htab hv
  obtain ⟨rfl, hsz, hP, hK, hD0, hE⟩ := hv
  have hx := B.exec
  have hb := B.bytes
  have hr := B.returns
  have ht : ∀ w ∈ xb, w.before _ s = true := fun w h => atoms_spec (ws := xw yX5_requireObject cX5_requireObject 2 none) B.pre w (List.mem_cons_of_mem _ h)
  have hown : s.vm.findClass RX5 = some m.cls := findClass_of_methodNamed B.named
  have hlocks := B.notSynchronized
  subst hsz
  have hAb := x_Ab hD0 hE.1
  have hD := hD0.self (sz := s.heap.size)
  generalize hAe : va_A [(h0, .inr (5, [.ref s0, .ref de, .ref kl, .ref tl, .ref cu, .ref hk, .ref ca, .int 0, .int 0, .int (-1), .int 0, .int 0])), (s0, .inr (3, [.ref a0, .ref a1, .ref a2, .ref a3, .ref a4, .ref a5, .ref a6, .int 0, .ref a7, .ref a8, .ref a9, .ref a10, .ref a11, .int 0]))] s.heap.size = A at hD hAb ⊢
  have hA : ∀ q : Nat, s.heap.size ≤ q → A q := fun q h => by rw [← hAe]; exact Or.inr h
  have hS : va_S A s.heap s.heap [] := va_S.rf
  have hP : va_P D vwCl [(h0, .inr (5, [.ref s0, .ref de, .ref kl, .ref tl, .ref cu, .ref hk, .ref ca, .int 0, .int 0, .int (-1), .int 0, .int 0])), (s0, .inr (3, [.ref a0, .ref a1, .ref a2, .ref a3, .ref a4, .ref a5, .ref a6, .int 0, .ref a7, .ref a8, .ref a9, .ref a10, .ref a11, .int 0]))] s.heap := hP
  have hl := lv_entry ([.ref h0, .int v0]) (n := 2) (Nat.le_of_ble_eq_true rfl)
  rw [lg_entry_eq]
  generalize (lg_sl ([.ref h0, .int v0]) ++ List.replicate (2 - (lg_sl ([.ref h0, .int v0])).length) Slot.unset).toArray = ls at hl ⊢
  have hl : lv_has ls 2 [(0, .ref h0), (1, .int v0)] := hl
  refine lv_aload_n hx hb dX5_requireObject_0 rfl (lv_at hl 0 rfl) ?_
  refine va_get (D := D) (ci := 5) (v := .ref s0) (C := RX5) (T := TX5) (N := 12) hx hb ht inX5 hown hK hP 0 rfl rfl 0 (by decide) (ht _ m_274) (fun _ h9 => h9) rfl dX5_requireObject_1 ?_
  refine lv_iload_n hx hb dX5_requireObject_4 rfl (lv_at hl 1 rfl) ?_
  have hPc := hP.sub (ws' := [(s0, .inr (3, [.ref a0, .ref a1, .ref a2, .ref a3, .ref a4, .ref a5, .ref a6, .int 0, .ref a7, .ref a8, .ref a9, .ref a10, .ref a11, .int 0]))]) [1] rfl
  have hDc := hD.sub (ws' := [(s0, .inr (3, [.ref a0, .ref a1, .ref a2, .ref a3, .ref a4, .ref a5, .ref a6, .int 0, .ref a7, .ref a8, .ref a9, .ref a10, .ref a11, .int 0]))]) [1] (by decide) rfl
  have hFc := va_free (wc := [(s0, .inr (3, [.ref a0, .ref a1, .ref a2, .ref a3, .ref a4, .ref a5, .ref a6, .int 0, .ref a7, .ref a8, .ref a9, .ref a10, .ref a11, .int 0]))]) hD hS hA [1] rfl
  refine va_calli (va_runV (As := [.int v0]) (rest := []) ⟨hx, hb, hml, hown, ht⟩ (k3_isObject0 l D C b0 s.heap.size s0 a0 a1 a2 a3 a4 a5 a6 a7 a8 a9 a10 a11 v0) (cwV 1 ht (xg_V m_275 m_276 m_277 m_258 m_158) rfl rfl rfl (by decide +kernel) ⟨Nat.le_of_ble_eq_true rfl, Nat.le_of_ble_eq_true rfl⟩) ⟨xPc_bl, va_recv hK hPc (ci := 3) (q0 := 0) rfl rfl, xPc_at hPc hK hDc hE hS hAb⟩ rfl rfl hl.1 rfl (lv_room (Nat.le_of_ble_eq_true rfl)) dX5_requireObject_5 ⟨(by decide), (by decide)⟩) hS (fun q _ h => hFc q h) hFc (fun r_1 u_2 t H1 locs ht1 hvm hw hB hz1 hk1 hS => ?_)
  obtain ⟨hP1, hD1⟩ := hB
  rw [ht1] at hP1
  try dsimp only at hw
  obtain ⟨hP, hD⟩ := va_join (wr := [(h0, .inr (5, [.ref s0, .ref de, .ref kl, .ref tl, .ref cu, .ref hk, .ref ca, .int 0, .int 0, .int (-1), .int 0, .int 0]))]) (w1 := [(s0, .inr (3, [.ref a0, .ref a1, .ref a2, .ref a3, .ref a4, .ref a5, .ref a6, .int 0, .ref a7, .ref a8, .ref a9, .ref a10, .ref a11, .int 0]))]) hP hD [1] [0] rfl rfl (by decide) (by decide) hk1 hFc hP1 hD1
  generalize H1 = H at hP hS ⊢
  have hP : va_P D vwCl [(h0, .inr (5, [.ref s0, .ref de, .ref kl, .ref tl, .ref cu, .ref hk, .ref ca, .int 0, .int 0, .int (-1), .int 0, .int 0])), (s0, .inr (3, [.ref a0, .ref a1, .ref a2, .ref a3, .ref a4, .ref a5, .ref a6, .int 0, .ref a7, .ref a8, .ref a9, .ref a10, .ref a11, .int 0]))] H := hP
  have hD : va_D A [(h0, .inr (5, [.ref s0, .ref de, .ref kl, .ref tl, .ref cu, .ref hk, .ref ca, .int 0, .int 0, .int (-1), .int 0, .int 0])), (s0, .inr (3, [.ref a0, .ref a1, .ref a2, .ref a3, .ref a4, .ref a5, .ref a6, .int 0, .ref a7, .ref a8, .ref a9, .ref a10, .ref a11, .int 0]))] := hD
  have hq_5 := hw
  obtain rfl : r_1 = (0 : Int32) := hw
  refine lv_if_ne (tgt := 21) hx hb dX5_requireObject_8 (by decide) (fun c_8 => ?_) (fun c_8 => ?_)
  · exact absurd c_8 (by decide)
  exact x_thrI (text := "no OBJECT") (mc := 1) (ms := 6) hx hb hl0 hown ht hE hAb (by decide +kernel) hS (by rw [hml]; exact hl.1) dX5_requireObject_11 dX5_requireObject_14 dX5_requireObject_15 dX5_requireObject_17 dX5_requireObject_20 htab (Nat.le_of_ble_eq_true rfl) (Nat.le_of_ble_eq_true rfl) (by decide) (by decide) hlocks (fun t hv1 hz1 hq1 => ⟨(), by first | trivial | assumption | (simp_all; done), rfl, x_F hS hz1 hq1⟩) hS.2.2 (by decide) (by decide)
set_option maxHeartbeats 4000000 in
set_option maxRecDepth 100000 in
theorem k5_requirePrototype (l : Launch) (hl0 : l.stackTraces = false) (D : va_G) (C : Nat → ClassId) (b0 sz : Nat) (h0 : Nat) (s0 : Nat) (de : Nat) (kl : Nat) (tl : Nat) (cu : Nat) (hk : Nat) (ca : Nat) (a0 : Nat) (a1 : Nat) (a2 : Nat) (a3 : Nat) (a4 : Nat) (a5 : Nat) (a6 : Nat) (a7 : Nat) (a8 : Nat) (a9 : Nat) (a10 : Nat) (a11 : Nat) (v0 : Int32) : vx_Met l yX5_requirePrototype (xw yX5_requirePrototype cX5_requirePrototype 2 none) ({ frames := 40, cells := 1, slots := 6, locals := 750 }) (xPc D C b0 [.ref h0, .int v0] [(h0, .inr (5, [.ref s0, .ref de, .ref kl, .ref tl, .ref cu, .ref hk, .ref ca, .int 0, .int 0, .int (-1), .int 0, .int 0])), (s0, .inr (3, [.ref a0, .ref a1, .ref a2, .ref a3, .ref a4, .ref a5, .ref a6, .int 0, .ref a7, .ref a8, .ref a9, .ref a10, .ref a11, .int 0]))] sz) (va_Qv (fun u : xS => v0 = -1) (xBw D (va_A [(h0, .inr (5, [.ref s0, .ref de, .ref kl, .ref tl, .ref cu, .ref hk, .ref ca, .int 0, .int 0, .int (-1), .int 0, .int 0])), (s0, .inr (3, [.ref a0, .ref a1, .ref a2, .ref a3, .ref a4, .ref a5, .ref a6, .int 0, .ref a7, .ref a8, .ref a9, .ref a10, .ref a11, .int 0]))] sz) (fun u => [(h0, .inr (5, [.ref s0, .ref de, .ref kl, .ref tl, .ref cu, .ref hk, .ref ca, .int 0, .int 0, .int (-1), .int 0, .int 0])), (s0, .inr (3, [.ref a0, .ref a1, .ref a2, .ref a3, .ref a4, .ref a5, .ref a6, .int 0, .ref a7, .ref a8, .ref a9, .ref a10, .ref a11, .int 0]))])) (va_A [(h0, .inr (5, [.ref s0, .ref de, .ref kl, .ref tl, .ref cu, .ref hk, .ref ca, .int 0, .int 0, .int (-1), .int 0, .int 0])), (s0, .inr (3, [.ref a0, .ref a1, .ref a2, .ref a3, .ref a4, .ref a5, .ref a6, .int 0, .ref a7, .ref a8, .ref a9, .ref a10, .ref a11, .int 0]))] sz)) (xX xIAE (¬ v0 = -1) (va_A [(h0, .inr (5, [.ref s0, .ref de, .ref kl, .ref tl, .ref cu, .ref hk, .ref ca, .int 0, .int 0, .int (-1), .int 0, .int 0])), (s0, .inr (3, [.ref a0, .ref a1, .ref a2, .ref a3, .ref a4, .ref a5, .ref a6, .int 0, .ref a7, .ref a8, .ref a9, .ref a10, .ref a11, .int 0]))] sz)) 1 6 (va_A [(h0, .inr (5, [.ref s0, .ref de, .ref kl, .ref tl, .ref cu, .ref hk, .ref ca, .int 0, .int 0, .int (-1), .int 0, .int 0])), (s0, .inr (3, [.ref a0, .ref a1, .ref a2, .ref a3, .ref a4, .ref a5, .ref a6, .int 0, .ref a7, .ref a8, .ref a9, .ref a10, .ref a11, .int 0]))] sz) := by
  refine vx_ofW (cc := cX5_requirePrototype) (maxL := 2) (ret := none) (by decide) rfl ?_
  intro p e s m args below meth c s₁ B hml htab hv
  obtain ⟨rfl, hsz, hP, hK, hD0, hE⟩ := hv
  have hx := B.exec
  have hb := B.bytes
  have hr := B.returns
  have ht : ∀ w ∈ xb, w.before _ s = true := fun w h => atoms_spec (ws := xw yX5_requirePrototype cX5_requirePrototype 2 none) B.pre w (List.mem_cons_of_mem _ h)
  have hown : s.vm.findClass RX5 = some m.cls := findClass_of_methodNamed B.named
  have hlocks := B.notSynchronized
  subst hsz
  have hAb := x_Ab hD0 hE.1
  have hD := hD0.self (sz := s.heap.size)
  generalize hAe : va_A [(h0, .inr (5, [.ref s0, .ref de, .ref kl, .ref tl, .ref cu, .ref hk, .ref ca, .int 0, .int 0, .int (-1), .int 0, .int 0])), (s0, .inr (3, [.ref a0, .ref a1, .ref a2, .ref a3, .ref a4, .ref a5, .ref a6, .int 0, .ref a7, .ref a8, .ref a9, .ref a10, .ref a11, .int 0]))] s.heap.size = A at hD hAb ⊢
  have hA : ∀ q : Nat, s.heap.size ≤ q → A q := fun q h => by rw [← hAe]; exact Or.inr h
  have hS : va_S A s.heap s.heap [] := va_S.rf
  have hP : va_P D vwCl [(h0, .inr (5, [.ref s0, .ref de, .ref kl, .ref tl, .ref cu, .ref hk, .ref ca, .int 0, .int 0, .int (-1), .int 0, .int 0])), (s0, .inr (3, [.ref a0, .ref a1, .ref a2, .ref a3, .ref a4, .ref a5, .ref a6, .int 0, .ref a7, .ref a8, .ref a9, .ref a10, .ref a11, .int 0]))] s.heap := hP
  have hl := lv_entry ([.ref h0, .int v0]) (n := 2) (Nat.le_of_ble_eq_true rfl)
  rw [lg_entry_eq]
  generalize (lg_sl ([.ref h0, .int v0]) ++ List.replicate (2 - (lg_sl ([.ref h0, .int v0])).length) Slot.unset).toArray = ls at hl ⊢
  have hl : lv_has ls 2 [(0, .ref h0), (1, .int v0)] := hl
  refine lv_iload_n hx hb dX5_requirePrototype_0 rfl (lv_at hl 1 rfl) ?_
  refine lv_iconst (v := (-1)) hx hb dX5_requirePrototype_1 (by decide) ?_
  refine lv_icmp_eq (tgt := 10) hx hb dX5_requirePrototype_2 (by decide) (fun c_2 => ?_) (fun c_2 => ?_)
  · skip
    have hP9 := hP.sub (ws' := [(h0, .inr (5, [.ref s0, .ref de, .ref kl, .ref tl, .ref cu, .ref hk, .ref ca, .int 0, .int 0, .int (-1), .int 0, .int 0])), (s0, .inr (3, [.ref a0, .ref a1, .ref a2, .ref a3, .ref a4, .ref a5, .ref a6, .int 0, .ref a7, .ref a8, .ref a9, .ref a10, .ref a11, .int 0]))]) [0, 1] rfl
    have hD9 := hD.sub (ws' := [(h0, .inr (5, [.ref s0, .ref de, .ref kl, .ref tl, .ref cu, .ref hk, .ref ca, .int 0, .int 0, .int (-1), .int 0, .int 0])), (s0, .inr (3, [.ref a0, .ref a1, .ref a2, .ref a3, .ref a4, .ref a5, .ref a6, .int 0, .ref a7, .ref a8, .ref a9, .ref a10, .ref a11, .int 0]))]) [0, 1] (by decide) rfl
    refine W.widen (k := 1) (n := 6) (by decide) (by decide) ?_
    refine vx_ret ?_
    exact W.vret hx hb hr (fun t ht1 hW => ⟨⟨(xA [], xF []), rfl, by first | trivial | rfl | assumption | decide | (simp_all; done), by rw [ht1]; exact hP9, hD9⟩, hS.F ht1⟩) hS.2.2 dX5_requirePrototype_10
  · skip
    refine lv_aload_n hx hb dX5_requirePrototype_5 rfl (lv_at hl 0 rfl) ?_
    refine lv_iload_n hx hb dX5_requirePrototype_6 rfl (lv_at hl 1 rfl) ?_
    have hPc := hP.sub (ws' := [(h0, .inr (5, [.ref s0, .ref de, .ref kl, .ref tl, .ref cu, .ref hk, .ref ca, .int 0, .int 0, .int (-1), .int 0, .int 0])), (s0, .inr (3, [.ref a0, .ref a1, .ref a2, .ref a3, .ref a4, .ref a5, .ref a6, .int 0, .ref a7, .ref a8, .ref a9, .ref a10, .ref a11, .int 0]))]) [0, 1] rfl
    have hDc := hD.sub (ws' := [(h0, .inr (5, [.ref s0, .ref de, .ref kl, .ref tl, .ref cu, .ref hk, .ref ca, .int 0, .int 0, .int (-1), .int 0, .int 0])), (s0, .inr (3, [.ref a0, .ref a1, .ref a2, .ref a3, .ref a4, .ref a5, .ref a6, .int 0, .ref a7, .ref a8, .ref a9, .ref a10, .ref a11, .int 0]))]) [0, 1] (by decide) rfl
    have hFc := va_free (wc := [(h0, .inr (5, [.ref s0, .ref de, .ref kl, .ref tl, .ref cu, .ref hk, .ref ca, .int 0, .int 0, .int (-1), .int 0, .int 0])), (s0, .inr (3, [.ref a0, .ref a1, .ref a2, .ref a3, .ref a4, .ref a5, .ref a6, .int 0, .ref a7, .ref a8, .ref a9, .ref a10, .ref a11, .int 0]))]) hD hS hA [0, 1] rfl
    refine vx_callv (vx_runV (As := [.int v0]) (rest := []) ⟨hx, hb, hml, hown, ht⟩ (k5_requireObject l hl0 D C b0 s.heap.size h0 s0 de kl tl cu hk ca a0 a1 a2 a3 a4 a5 a6 a7 a8 a9 a10 a11 v0) (cwV 1 ht (xg_V m_278 m_279 m_280 m_281 m_163) rfl rfl rfl (by decide +kernel) ⟨Nat.le_of_ble_eq_true rfl, Nat.le_of_ble_eq_true rfl⟩) ⟨xPc_bl, va_recv hK hPc (ci := 5) (q0 := 0) rfl rfl, xPc_at hPc hK hDc hE hS hAb⟩ rfl rfl hl.1 rfl (lv_room (Nat.le_of_ble_eq_true rfl)) dX5_requirePrototype_7 ⟨(by decide), (by decide)⟩) hS (fun q _ h => hFc q h) hFc (fun q _ h => hFc q h) (fun E ce q9 u9 t9 H9 locs9 e9 v9 p9 b9 z9 k9 hS9 hc9 hn9 hf9 => ?_) (fun u_1 t H1 locs ht1 hvm hw hB hz1 hk1 hS => ?_)
    · skip
      obtain rfl := b9
      exact vx_out (mc := 1) (ms := 6) (fun x hx => (htab x hx).elim) hlocks hc9 hn9 hf9 (fun t ht1 hW1 => ⟨(), by first | exact p9 | trivial | assumption | (simp_all; done), rfl, hS9.F ht1⟩) hS9.2.2 (by decide) (by decide)
    · exact hw.elim
set_option maxHeartbeats 4000000 in
set_option maxRecDepth 100000 in
theorem k5_requireKey (l : Launch) (hl0 : l.stackTraces = false) (D : va_G) (C : Nat → ClassId) (b0 sz : Nat) (h0 : Nat) (s0 : Nat) (de : Nat) (kl : Nat) (tl : Nat) (cu : Nat) (hk : Nat) (ca : Nat) (v0 : Int32) : vx_Met l yX5_requireKey (xw yX5_requireKey cX5_requireKey 2 none) ({ frames := 32, cells := 1, slots := 6, locals := 600 }) (xPc D C b0 [.ref h0, .int v0] [(h0, .inr (5, [.ref s0, .ref de, .ref kl, .ref tl, .ref cu, .ref hk, .ref ca, .int 0, .int 0, .int (-1), .int 0, .int 0]))] sz) (va_Qv (fun u : xS => ¬ v0 < 0 ∧ v0 < 250) (xBw D (va_A [(h0, .inr (5, [.ref s0, .ref de, .ref kl, .ref tl, .ref cu, .ref hk, .ref ca, .int 0, .int 0, .int (-1), .int 0, .int 0]))] sz) (fun u => [(h0, .inr (5, [.ref s0, .ref de, .ref kl, .ref tl, .ref cu, .ref hk, .ref ca, .int 0, .int 0, .int (-1), .int 0, .int 0]))])) (va_A [(h0, .inr (5, [.ref s0, .ref de, .ref kl, .ref tl, .ref cu, .ref hk, .ref ca, .int 0, .int 0, .int (-1), .int 0, .int 0]))] sz)) (xX xIAE (v0 < 0 ∨ ¬ v0 < 250) (va_A [(h0, .inr (5, [.ref s0, .ref de, .ref kl, .ref tl, .ref cu, .ref hk, .ref ca, .int 0, .int 0, .int (-1), .int 0, .int 0]))] sz)) 1 6 (va_A [(h0, .inr (5, [.ref s0, .ref de, .ref kl, .ref tl, .ref cu, .ref hk, .ref ca, .int 0, .int 0, .int (-1), .int 0, .int 0]))] sz) := by
  refine vx_ofW (cc := cX5_requireKey) (maxL := 2) (ret := none) (by decide) rfl ?_
  intro p e s m args below meth c s₁ B hml htab hv
  obtain ⟨rfl, hsz, hP, hK, hD0, hE⟩ := hv
  have hx := B.exec
  have hb := B.bytes
  have hr := B.returns
  have ht : ∀ w ∈ xb, w.before _ s = true := fun w h => atoms_spec (ws := xw yX5_requireKey cX5_requireKey 2 none) B.pre w (List.mem_cons_of_mem _ h)
  have hown : s.vm.findClass RX5 = some m.cls := findClass_of_methodNamed B.named
  have hlocks := B.notSynchronized
  subst hsz
  have hAb := x_Ab hD0 hE.1
  have hD := hD0.self (sz := s.heap.size)
  generalize hAe : va_A [(h0, .inr (5, [.ref s0, .ref de, .ref kl, .ref tl, .ref cu, .ref hk, .ref ca, .int 0, .int 0, .int (-1), .int 0, .int 0]))] s.heap.size = A at hD hAb ⊢
  have hA : ∀ q : Nat, s.heap.size ≤ q → A q := fun q h => by rw [← hAe]; exact Or.inr h
  have hS : va_S A s.heap s.heap [] := va_S.rf
  have hP : va_P D vwCl [(h0, .inr (5, [.ref s0, .ref de, .ref kl, .ref tl, .ref cu, .ref hk, .ref ca, .int 0, .int 0, .int (-1), .int 0, .int 0]))] s.heap := hP
  have hl := lv_entry ([.ref h0, .int v0]) (n := 2) (Nat.le_of_ble_eq_true rfl)
  rw [lg_entry_eq]
  generalize (lg_sl ([.ref h0, .int v0]) ++ List.replicate (2 - (lg_sl ([.ref h0, .int v0])).length) Slot.unset).toArray = ls at hl ⊢
  have hl : lv_has ls 2 [(0, .ref h0), (1, .int v0)] := hl
  refine lv_iload_n hx hb dX5_requireKey_0 rfl (lv_at hl 1 rfl) ?_
  refine lv_if_lt (tgt := 11) hx hb dX5_requireKey_1 (by decide) (fun c_1 => ?_) (fun c_1 => ?_)
  · skip
    exact x_thrI (text := "no KEY") (mc := 1) (ms := 6) hx hb hl0 hown ht hE hAb (by decide +kernel) hS (by rw [hml]; exact hl.1) dX5_requireKey_11 dX5_requireKey_14 dX5_requireKey_15 dX5_requireKey_17 dX5_requireKey_20 htab (Nat.le_of_ble_eq_true rfl) (Nat.le_of_ble_eq_true rfl) (by decide) (by decide) hlocks (fun t hv1 hz1 hq1 => ⟨(), by first | exact Or.inl c_1 | exact Or.inr c_8, rfl, x_F hS hz1 hq1⟩) hS.2.2 (by decide) (by decide)
  · skip
    refine lv_iload_n hx hb dX5_requireKey_4 rfl (lv_at hl 1 rfl) ?_
    refine lv_sipush (v := 250) hx hb dX5_requireKey_5 (by decide) ?_
    refine lv_icmp_lt (tgt := 21) hx hb dX5_requireKey_8 (by decide) (fun c_8 => ?_) (fun c_8 => ?_)
    · skip
      have hP9 := hP.sub (ws' := [(h0, .inr (5, [.ref s0, .ref de, .ref kl, .ref tl, .ref cu, .ref hk, .ref ca, .int 0, .int 0, .int (-1), .int 0, .int 0]))]) [0] rfl
      have hD9 := hD.sub (ws' := [(h0, .inr (5, [.ref s0, .ref de, .ref kl, .ref tl, .ref cu, .ref hk, .ref ca, .int 0, .int 0, .int (-1), .int 0, .int 0]))]) [0] (by decide) rfl
      refine W.widen (k := 1) (n := 6) (by decide) (by decide) ?_
      refine vx_ret ?_
      exact W.vret hx hb hr (fun t ht1 hW => ⟨⟨(xA [], xF []), rfl, ⟨c_1, c_8⟩, by rw [ht1]; exact hP9, hD9⟩, hS.F ht1⟩) hS.2.2 dX5_requireKey_21
    · skip
      exact x_thrI (text := "no KEY") (mc := 1) (ms := 6) hx hb hl0 hown ht hE hAb (by decide +kernel) hS (by rw [hml]; exact hl.1) dX5_requireKey_11 dX5_requireKey_14 dX5_requireKey_15 dX5_requireKey_17 dX5_requireKey_20 htab (Nat.le_of_ble_eq_true rfl) (Nat.le_of_ble_eq_true rfl) (by decide) (by decide) hlocks (fun t hv1 hz1 hq1 => ⟨(), by first | exact Or.inl c_1 | exact Or.inr c_8, rfl, x_F hS hz1 hq1⟩) hS.2.2 (by decide) (by decide)
