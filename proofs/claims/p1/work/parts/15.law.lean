/-! THE CLAIM OUT OF ONE WALK OF THE LAW'S BODY. Your part is whole_start (and what it stands on); all else here is the same for every law, but numbers. -/
def R_law : String := "ObjectRulesLaw"
def lw_P (b : Addr) (xs : List Int32) (args : Array Value) (s : State) : Prop := args = #[.ref b] ∧ s.IntsAt b xs ∧ xs.length ≤ 6 ∧ (Jvm.Cond.and given_1 narrow_1).before args s = true
def lw_Q (_ : Array Value) (s : State) (o : Outcome) (t : State) : Prop := o = .returned (some (.int 1)) ∧ Framed s o t [] 600002 7302232
def lw_Z (below : List Frame) (a : Array Value) (s : State) : State → Prop := fun t => ∃ o, t.status = .running ∧ Ended t below o ∧ lw_Q a s o t
/-- the law's own end, with 1 on the stack, nothing written that was there before, its room as the claim has it -/
theorem lw_ret {p : Program} {l : Launch} {e : Env} {s : State} {m : MethodId} {below : List Frame} {meth : Method} {c : Code} {b : Nat} (hx : p.tables.exec = Jvm.exec) (hb : c.code = code) (hr : meth.sig.returnType = ret) (hlocks : meth.locks = false) {pc : Nat} {H : Heap} {ls : Array Slot} (hdg : decode code pc = .ok (.ireturn, 1)) : W p l e room_1 s m #[Value.ref b] below meth c H [] 600002 7302232 (lw_Z below #[Value.ref b] s) (F0 m pc ls [.int 1]) := by
  intro T hT X
  obtain ⟨fs, hret, hrun, hended, hW, hframe⟩ := X.leave (v := some (.int 1)) (hlocks := hlocks) (fun h => by rw [hr] at h; cases h)
  have hmeth' : T.vm.method? m = some meth := X.method'
  refine ⟨T.setFrames fs, ?_, .returned (some (.int 1)), hrun, hended, rfl, ⟨_, rfl⟩, hW, hframe⟩
  jvm_step X.here [X.here.top, hx, hb, hdg, hmeth', hr, ret, narrow_b1]
  (try refine ⟨rfl, ?_⟩); (try refine ⟨rfl, ?_⟩)
  first | (intro acts; rw [hret _ acts rfl rfl rfl]) | rw [hret _ _ rfl rfl rfl]
  exact Steps.refl _
/-- what holds at the law's entry: the machine, the code, the tables' words (any of lw_tbl by 'hts w (by decide +kernel)'), the script of L ints xs at the cell b, what the Statement gives of the start (any of its parts by flat_of_before) -/
def lw_At (p : Program) (s : State) (m : MethodId) (meth : Method) (c : Code) (b L : Nat) (xs : Nat → Int32) : Prop :=
  p.tables.exec = Jvm.exec ∧ c.code = code ∧ meth.sig.returnType = ret ∧ c.maxLocals = 7 ∧ s.vm.findClass R_law = some m.cls ∧ (∀ w ∈ lw_tbl, w.before #[Value.ref b] s = true) ∧ va_X b L xs s s.heap ∧ b < s.heap.size ∧ meth.locks = false ∧ (Jvm.Cond.and given_1 narrow_1).before #[Value.ref b] s = true
/-- what holds all along the law -/
def lAt (p : Program) (l : Launch) (s : State) (m : MethodId) (meth : Method) (c : Code) (b L : Nat) (xs : Nat → Int32) (D : va_G) (C : Nat → ClassId) (A : Nat → Prop) : Prop :=
  l.stackTraces = false ∧ p.tables.exec = Jvm.exec ∧ c.code = code ∧ meth.sig.returnType = ret ∧ c.maxLocals = 7 ∧ s.vm.findClass RL = some m.cls ∧ (∀ w ∈ xb, w.before #[Value.ref b] s = true) ∧ va_X b L xs s s.heap ∧ b < s.heap.size ∧ meth.locks = false ∧ va_K D vwCl (xTY C) s ∧ xE s.heap.size s ∧ (∀ q, s.heap.size ≤ q → A q) ∧ (∀ q, A q → s.heap.size ≤ q) ∧ ¬ A b
set_option maxHeartbeats 4000000 in
set_option maxRecDepth 100000 in
theorem lc_end {p : Program} {l : Launch} {e : Env} {s : State} {m : MethodId} {below : List Frame} {meth : Method} {c : Code} {b : Nat} {xs : Nat → Int32} {D : va_G} {C : Nat → ClassId} {A : Nat → Prop} (h : lAt p l s m meth c b 6 xs D C A) {H : Heap} {locs : List Loc} {cells slots : Nat} {ls : Array Slot} (hc : cells ≤ 600002) (hs : slots ≤ 7302232) (hS : va_S A s.heap H locs) (hl : lv_has ls 7 [(4, .int 0), (0, .ref b)]) : W p l e room_1 s m #[Value.ref b] below meth c H locs cells slots (lw_Z below #[Value.ref b] s) (F0 m 1732 ls []) := by
  obtain ⟨hl0, hx, hb, hr, hml, hown, ht, hX, hbl, hlocks, hK, hE, hA, hAs, hbA⟩ := h
  refine lv_iinc (v := 6) (lv' := [(4, .int 6), (0, .ref b)]) hx hb dL_law_1732 hl (k := 0) rfl (by decide) (by decide) rfl (fun ls hl => ?_)
  refine lv_goto (tgt := 23) hx hb dL_law_1735 (by decide) ?_
  refine lv_iload hx hb dL_law_23 (lv_at hl 0 rfl) ?_
  refine lv_aload_n hx hb dL_law_25 rfl (lv_at hl 1 rfl) ?_
  refine va_slen hx hb hX hbl hbA hS dL_law_26 ?_
  refine lv_bipush (v := 6) hx hb dL_law_27 (by decide) ?_
  refine lv_isub hx hb dL_law_29 ?_
  refine lv_topi (fun x_1 ex_1 => ?_)
  obtain rfl : x_1 = (0 : Int32) := ex_1.trans (by decide)
  refine lv_icmp_gt (tgt := 1738) hx hb dL_law_30 (by decide) (fun c_30 => ?_) (fun c_30 => ?_)
  rotate_left
  · exact absurd c_30 (by decide)
  refine lv_iconst (v := 1) hx hb dL_law_1738 (by decide) ?_
  refine va_forget (fun q hq => hAs _ (hS.2.2 q hq)) ?_
  refine W.widen (k := 600002) (n := 7302232) hc hs ?_
  exact lw_ret hx hb hr hlocks dL_law_1739
set_option maxHeartbeats 4000000 in
set_option maxRecDepth 100000 in
theorem lc_make {p : Program} {l : Launch} {e : Env} {s : State} {m : MethodId} {below : List Frame} {meth : Method} {c : Code} {b : Nat} {xs : Nat → Int32} {D : va_G} {C : Nat → ClassId} {A : Nat → Prop} {h0 s0 de kl tl cu hk ca kx ky tx ty a0 a1 a2 a3 a4 a5 a6 a7 a8 a9 a10 a11 ou mo g2 g3 g4 g5 g6 g7 g8 g9 g10 g11 g12 g13 g14 g15 g16 g17 g18 g19 g22 g24 g28 g29 : Nat} {e10 e2 e3 e9 f0 f1 f2 f3 : Nat → Int32} {fo : Nat → Int64} (h : lAt p l s m meth c b 6 xs D C A) {H : Heap} {locs : List Loc} {ls : Array Slot} (hP : va_P D vwCl [(h0, .inr (5, [.ref s0, .ref de, .ref kl, .ref tl, .ref cu, .ref hk, .ref ca, .int 0, .int 0, .int (-1), .int 0, .int 0])), (kl, .inr (2, [.ref kx, .ref ky, .int 0])), (tl, .inr (4, [.ref tx, .ref ty, .int 1])), (s0, .inr (3, [.ref a0, .ref a1, .ref a2, .ref a3, .ref a4, .ref a5, .ref a6, .int 0, .ref a7, .ref a8, .ref a9, .ref a10, .ref a11, .int 0])), (a0, .inl (C 0, 600, .inl f0)), (a1, .inl (C 0, 600, .inl f1)), (a2, .inl (C 1, 600, .inl f2)), (a3, .inl (C 0, 600, .inl f3)), (ou, .inl (C 2, 1, .inr (.inl fo))), (mo, .inr (9, [.int 0, .int 0, .ref g2, .ref g3, .ref g4, .ref g5, .ref g6, .ref g7, .ref g8, .ref g9, .ref g10, .ref g11, .ref g12, .ref g13, .ref g14, .ref g15, .ref g16, .ref g17, .ref g18, .ref g19, .int 0, .int 0, .ref g22, .int 0, .ref g24, .int 0, .int 0, .int (-1), .ref g28, .ref g29, .int 0, .int 0])), (g2, .inl (C 0, 600, .inl e2)), (g3, .inl (C 0, 600, .inl e3)), (g9, .inl (C 1, 600, .inl e9)), (g10, .inl (C 0, 600, .inl e10))] H) (hD : va_D A [(h0, .inr (5, [.ref s0, .ref de, .ref kl, .ref tl, .ref cu, .ref hk, .ref ca, .int 0, .int 0, .int (-1), .int 0, .int 0])), (kl, .inr (2, [.ref kx, .ref ky, .int 0])), (tl, .inr (4, [.ref tx, .ref ty, .int 1])), (s0, .inr (3, [.ref a0, .ref a1, .ref a2, .ref a3, .ref a4, .ref a5, .ref a6, .int 0, .ref a7, .ref a8, .ref a9, .ref a10, .ref a11, .int 0])), (a0, .inl (C 0, 600, .inl f0)), (a1, .inl (C 0, 600, .inl f1)), (a2, .inl (C 1, 600, .inl f2)), (a3, .inl (C 0, 600, .inl f3)), (ou, .inl (C 2, 1, .inr (.inl fo))), (mo, .inr (9, [.int 0, .int 0, .ref g2, .ref g3, .ref g4, .ref g5, .ref g6, .ref g7, .ref g8, .ref g9, .ref g10, .ref g11, .ref g12, .ref g13, .ref g14, .ref g15, .ref g16, .ref g17, .ref g18, .ref g19, .int 0, .int 0, .ref g22, .int 0, .ref g24, .int 0, .int 0, .int (-1), .ref g28, .ref g29, .int 0, .int 0])), (g2, .inl (C 0, 600, .inl e2)), (g3, .inl (C 0, 600, .inl e3)), (g9, .inl (C 1, 600, .inl e9)), (g10, .inl (C 0, 600, .inl e10))]) (hS : va_S A s.heap H locs) (hl : lv_has ls 7 [(4, .int 0), (3, .ref ou), (2, .ref mo), (1, .ref h0), (0, .ref b)]) : W p l e room_1 s m #[Value.ref b] below meth c H locs 254 111937 (lw_Z below #[Value.ref b] s) (F0 m 140 ls []) := by
  obtain ⟨hl0, hx, hb, hr, hml, hown, ht, hX, hbl, hlocks, hK, hE, hA, hAs, hbA⟩ := h
  have hAb := hAs
  refine lv_aload_n hx hb dL_law_140 rfl (lv_at hl 3 rfl) ?_
  refine lv_aload_n hx hb dL_law_141 rfl (lv_at hl 4 rfl) ?_
  refine lv_iload hx hb dL_law_142 (lv_at hl 0 rfl) ?_
  refine lv_iconst (v := 1) hx hb dL_law_144 (by decide) ?_
  refine lv_iadd hx hb dL_law_145 ?_
  refine lv_topi (fun x_1 ex_1 => ?_)
  obtain rfl : x_1 = (1 : Int32) := ex_1.trans (by decide)
  refine va_sld hx hb hX hbl hbA hS (by unfold vp_in; decide) dL_law_146 ?_
  refine lv_aload_n hx hb dL_law_147 rfl (lv_at hl 1 rfl) ?_
  have hPc := hP.sub (ws' := [(h0, .inr (5, [.ref s0, .ref de, .ref kl, .ref tl, .ref cu, .ref hk, .ref ca, .int 0, .int 0, .int (-1), .int 0, .int 0])), (kl, .inr (2, [.ref kx, .ref ky, .int 0])), (tl, .inr (4, [.ref tx, .ref ty, .int 1])), (s0, .inr (3, [.ref a0, .ref a1, .ref a2, .ref a3, .ref a4, .ref a5, .ref a6, .int 0, .ref a7, .ref a8, .ref a9, .ref a10, .ref a11, .int 0])), (a0, .inl (C 0, 600, .inl f0)), (a1, .inl (C 0, 600, .inl f1)), (a2, .inl (C 1, 600, .inl f2)), (a3, .inl (C 0, 600, .inl f3)), (ou, .inl (C 2, 1, .inr (.inl fo)))]) [0, 1, 2, 3, 4, 5, 6, 7, 8] rfl
  have hDc := hD.sub (ws' := [(h0, .inr (5, [.ref s0, .ref de, .ref kl, .ref tl, .ref cu, .ref hk, .ref ca, .int 0, .int 0, .int (-1), .int 0, .int 0])), (kl, .inr (2, [.ref kx, .ref ky, .int 0])), (tl, .inr (4, [.ref tx, .ref ty, .int 1])), (s0, .inr (3, [.ref a0, .ref a1, .ref a2, .ref a3, .ref a4, .ref a5, .ref a6, .int 0, .ref a7, .ref a8, .ref a9, .ref a10, .ref a11, .int 0])), (a0, .inl (C 0, 600, .inl f0)), (a1, .inl (C 0, 600, .inl f1)), (a2, .inl (C 1, 600, .inl f2)), (a3, .inl (C 0, 600, .inl f3)), (ou, .inl (C 2, 1, .inr (.inl fo)))]) [0, 1, 2, 3, 4, 5, 6, 7, 8] (by decide) rfl
  have hFc := va_free (wc := [(h0, .inr (5, [.ref s0, .ref de, .ref kl, .ref tl, .ref cu, .ref hk, .ref ca, .int 0, .int 0, .int (-1), .int 0, .int 0])), (kl, .inr (2, [.ref kx, .ref ky, .int 0])), (tl, .inr (4, [.ref tx, .ref ty, .int 1])), (s0, .inr (3, [.ref a0, .ref a1, .ref a2, .ref a3, .ref a4, .ref a5, .ref a6, .int 0, .ref a7, .ref a8, .ref a9, .ref a10, .ref a11, .int 0])), (a0, .inl (C 0, 600, .inl f0)), (a1, .inl (C 0, 600, .inl f1)), (a2, .inl (C 1, 600, .inl f2)), (a3, .inl (C 0, 600, .inl f3)), (ou, .inl (C 2, 1, .inr (.inl fo)))]) hD hS hA [0, 1, 2, 3, 4, 5, 6, 7, 8] rfl
  refine va_calli (vx_runSW (As := [.ref h0, .int (xs (Int32.toNatClampNeg 1)), .ref ou]) (rest := []) ⟨hx, hb, hml, hown, ht⟩ (kL_make l hl0 D C s.heap.size H.size h0 s0 de kl tl cu hk ca kx ky tx ty a0 a1 a2 a3 a4 a5 a6 a7 a8 a9 a10 a11 f0 f1 f2 f3 ((xs (Int32.toNatClampNeg 1))) ou fo) (vx_cwSW 3 ht (xg_T m_556 m_557 m_558 m_469) rfl rfl rfl (by decide +kernel) ⟨Nat.le_of_ble_eq_true rfl, Nat.le_of_ble_eq_true rfl⟩) ⟨xPc_bl, xPc_at hPc hK hDc hE hS hAb⟩ rfl rfl hl.1 rfl (lv_room (Nat.le_of_ble_eq_true rfl)) dL_law_148 ⟨(by decide), (by decide)⟩) hS (fun q _ h => hFc q h) hFc (fun r_2 u_3 t H1 locs ht1 hvm hw hB hz1 hk1 hS => ?_)
  obtain ⟨hP1, hD1⟩ := hB
  rw [ht1] at hP1
  try dsimp only at hw
  obtain ⟨hP, hD⟩ := va_join (wr := [(mo, .inr (9, [.int 0, .int 0, .ref g2, .ref g3, .ref g4, .ref g5, .ref g6, .ref g7, .ref g8, .ref g9, .ref g10, .ref g11, .ref g12, .ref g13, .ref g14, .ref g15, .ref g16, .ref g17, .ref g18, .ref g19, .int 0, .int 0, .ref g22, .int 0, .ref g24, .int 0, .int 0, .int (-1), .ref g28, .ref g29, .int 0, .int 0])), (g2, .inl (C 0, 600, .inl e2)), (g3, .inl (C 0, 600, .inl e3)), (g9, .inl (C 1, 600, .inl e9)), (g10, .inl (C 0, 600, .inl e10))]) (w1 := [(ou, .inl (C 2, 1, .inr (.inl (u_3))))]) hP hD [0, 1, 2, 3, 4, 5, 6, 7, 8] [9, 10, 11, 12, 13] rfl rfl (by decide) (by decide) hk1 hFc hP1 hD1
  generalize H1 = H at hP hS ⊢
  have hP : va_P D vwCl [(mo, .inr (9, [.int 0, .int 0, .ref g2, .ref g3, .ref g4, .ref g5, .ref g6, .ref g7, .ref g8, .ref g9, .ref g10, .ref g11, .ref g12, .ref g13, .ref g14, .ref g15, .ref g16, .ref g17, .ref g18, .ref g19, .int 0, .int 0, .ref g22, .int 0, .ref g24, .int 0, .int 0, .int (-1), .ref g28, .ref g29, .int 0, .int 0])), (g2, .inl (C 0, 600, .inl e2)), (g3, .inl (C 0, 600, .inl e3)), (g9, .inl (C 1, 600, .inl e9)), (g10, .inl (C 0, 600, .inl e10)), (ou, .inl (C 2, 1, .inr (.inl (u_3))))] H := hP
  have hD : va_D A [(mo, .inr (9, [.int 0, .int 0, .ref g2, .ref g3, .ref g4, .ref g5, .ref g6, .ref g7, .ref g8, .ref g9, .ref g10, .ref g11, .ref g12, .ref g13, .ref g14, .ref g15, .ref g16, .ref g17, .ref g18, .ref g19, .int 0, .int 0, .ref g22, .int 0, .ref g24, .int 0, .int 0, .int (-1), .ref g28, .ref g29, .int 0, .int 0])), (g2, .inl (C 0, 600, .inl e2)), (g3, .inl (C 0, 600, .inl e3)), (g9, .inl (C 1, 600, .inl e9)), (g10, .inl (C 0, 600, .inl e10)), (ou, .inl (C 2, 1, .inr (.inl (u_3))))] := hD
  have hq_148 := hw
  refine W.widen (k := 257) (n := 111955) (by decide) (by decide) ?_
  rcases hq_148 with ⟨y1, y2, y3⟩ | ⟨y1, y2⟩
  · skip
    obtain rfl : r_2 = (0 : Int32) := y2
    refine lv_istore (lv' := [(5, .int 0), (4, .int 0), (3, .ref ou), (2, .ref mo), (1, .ref h0), (0, .ref b)]) hx hb dL_law_151 hl (by decide) rfl (fun ls hl => ?_)
    refine lv_aload_n hx hb dL_law_153 rfl (lv_at hl 3 rfl) ?_
    refine lv_aload_n hx hb dL_law_154 rfl (lv_at hl 5 rfl) ?_
    refine lv_iload hx hb dL_law_155 (lv_at hl 1 rfl) ?_
    refine lv_iconst (v := 1) hx hb dL_law_157 (by decide) ?_
    refine lv_iadd hx hb dL_law_158 ?_
    refine lv_topi (fun x_4 ex_4 => ?_)
    obtain rfl : x_4 = (1 : Int32) := ex_4.trans (by decide)
    refine va_sld hx hb hX hbl hbA hS (by unfold vp_in; decide) dL_law_159 ?_
    have hPc := hP.sub (ws' := [(mo, .inr (9, [.int 0, .int 0, .ref g2, .ref g3, .ref g4, .ref g5, .ref g6, .ref g7, .ref g8, .ref g9, .ref g10, .ref g11, .ref g12, .ref g13, .ref g14, .ref g15, .ref g16, .ref g17, .ref g18, .ref g19, .int 0, .int 0, .ref g22, .int 0, .ref g24, .int 0, .int 0, .int (-1), .ref g28, .ref g29, .int 0, .int 0])), (g2, .inl (C 0, 600, .inl e2)), (g3, .inl (C 0, 600, .inl e3)), (g9, .inl (C 1, 600, .inl e9)), (g10, .inl (C 0, 600, .inl e10))]) [0, 1, 2, 3, 4] rfl
    have hDc := hD.sub (ws' := [(mo, .inr (9, [.int 0, .int 0, .ref g2, .ref g3, .ref g4, .ref g5, .ref g6, .ref g7, .ref g8, .ref g9, .ref g10, .ref g11, .ref g12, .ref g13, .ref g14, .ref g15, .ref g16, .ref g17, .ref g18, .ref g19, .int 0, .int 0, .ref g22, .int 0, .ref g24, .int 0, .int 0, .int (-1), .ref g28, .ref g29, .int 0, .int 0])), (g2, .inl (C 0, 600, .inl e2)), (g3, .inl (C 0, 600, .inl e3)), (g9, .inl (C 1, 600, .inl e9)), (g10, .inl (C 0, 600, .inl e10))]) [0, 1, 2, 3, 4] (by decide) rfl
    have hFc := va_free (wc := [(mo, .inr (9, [.int 0, .int 0, .ref g2, .ref g3, .ref g4, .ref g5, .ref g6, .ref g7, .ref g8, .ref g9, .ref g10, .ref g11, .ref g12, .ref g13, .ref g14, .ref g15, .ref g16, .ref g17, .ref g18, .ref g19, .int 0, .int 0, .ref g22, .int 0, .ref g24, .int 0, .int 0, .int (-1), .ref g28, .ref g29, .int 0, .int 0])), (g2, .inl (C 0, 600, .inl e2)), (g3, .inl (C 0, 600, .inl e3)), (g9, .inl (C 1, 600, .inl e9)), (g10, .inl (C 0, 600, .inl e10))]) hD hS hA [0, 1, 2, 3, 4] rfl
    refine va_calli (va_runV (As := [.int (xs (Int32.toNatClampNeg 1))]) (rest := []) ⟨hx, hb, hml, hown, ht⟩ (k9p_make l D C s.heap.size H.size mo g2 g3 g4 g5 g6 g7 g8 g9 g10 g11 g12 g13 g14 g15 g16 g17 g18 g19 g22 g24 g28 g29 e2 e3 e9 e10 ((xs (Int32.toNatClampNeg 1)))) (cwV 1 ht (xg_V m_559 m_560 m_561 m_391 m_222) rfl rfl rfl (by decide +kernel) ⟨Nat.le_of_ble_eq_true rfl, Nat.le_of_ble_eq_true rfl⟩) ⟨xPc_bl, va_recv hK hPc (ci := 9) (q0 := 0) rfl rfl, xPc_at hPc hK hDc hE hS hAb⟩ rfl rfl hl.1 rfl (lv_room (Nat.le_of_ble_eq_true rfl)) dL_law_160 ⟨(by decide), (by decide)⟩) hS (fun q _ h => hFc q h) hFc (fun r_5 u_6 t H1 locs ht1 hvm hw hB hz1 hk1 hS => ?_)
    obtain ⟨hP1, hD1⟩ := hB
    rw [ht1] at hP1
    try dsimp only at hw
    obtain ⟨hP, hD⟩ := va_join (wr := [(ou, .inl (C 2, 1, .inr (.inl (u_3))))]) (w1 := [(mo, .inr (9, [.int (u_6.2 0 0), .int (u_6.2 1 0), .ref g2, .ref g3, .ref g4, .ref g5, .ref g6, .ref g7, .ref g8, .ref g9, .ref g10, .ref g11, .ref g12, .ref g13, .ref g14, .ref g15, .ref g16, .ref g17, .ref g18, .ref g19, .int (u_6.2 2 0), .int (u_6.2 3 0), .ref g22, .int (u_6.2 4 0), .ref g24, .int (u_6.2 5 0), .int (u_6.2 6 0), .int (u_6.2 7 0), .ref g28, .ref g29, .int (u_6.2 8 0), .int (u_6.2 9 0)]))]) hP hD [0, 1, 2, 3, 4] [5] rfl rfl (by decide) (by decide) hk1 hFc hP1 hD1
    generalize H1 = H at hP hS ⊢
    have hP : va_P D vwCl [(ou, .inl (C 2, 1, .inr (.inl (u_3)))), (mo, .inr (9, [.int (u_6.2 0 0), .int (u_6.2 1 0), .ref g2, .ref g3, .ref g4, .ref g5, .ref g6, .ref g7, .ref g8, .ref g9, .ref g10, .ref g11, .ref g12, .ref g13, .ref g14, .ref g15, .ref g16, .ref g17, .ref g18, .ref g19, .int (u_6.2 2 0), .int (u_6.2 3 0), .ref g22, .int (u_6.2 4 0), .ref g24, .int (u_6.2 5 0), .int (u_6.2 6 0), .int (u_6.2 7 0), .ref g28, .ref g29, .int (u_6.2 8 0), .int (u_6.2 9 0)]))] H := hP
    have hD : va_D A [(ou, .inl (C 2, 1, .inr (.inl (u_3)))), (mo, .inr (9, [.int (u_6.2 0 0), .int (u_6.2 1 0), .ref g2, .ref g3, .ref g4, .ref g5, .ref g6, .ref g7, .ref g8, .ref g9, .ref g10, .ref g11, .ref g12, .ref g13, .ref g14, .ref g15, .ref g16, .ref g17, .ref g18, .ref g19, .int (u_6.2 2 0), .int (u_6.2 3 0), .ref g22, .int (u_6.2 4 0), .ref g24, .int (u_6.2 5 0), .int (u_6.2 6 0), .int (u_6.2 7 0), .ref g28, .ref g29, .int (u_6.2 8 0), .int (u_6.2 9 0)]))] := hD
    have hq_160 := hw
    rcases hq_160 with ⟨z1, z2, z3⟩ | ⟨z1, z3⟩
    · skip
      obtain rfl : r_5 = (-2 : Int32) := z2
      refine lv_istore (lv' := [(6, .int (-2)), (5, .int 0), (4, .int 0), (3, .ref ou), (2, .ref mo), (1, .ref h0), (0, .ref b)]) hx hb dL_law_163 hl (by decide) rfl (fun ls hl => ?_)
      refine lv_aload_n hx hb dL_law_165 rfl (lv_at hl 4 rfl) ?_
      have hPc := hP.sub (ws' := [(mo, .inr (9, [.int (u_6.2 0 0), .int (u_6.2 1 0), .ref g2, .ref g3, .ref g4, .ref g5, .ref g6, .ref g7, .ref g8, .ref g9, .ref g10, .ref g11, .ref g12, .ref g13, .ref g14, .ref g15, .ref g16, .ref g17, .ref g18, .ref g19, .int (u_6.2 2 0), .int (u_6.2 3 0), .ref g22, .int (u_6.2 4 0), .ref g24, .int (u_6.2 5 0), .int (u_6.2 6 0), .int (u_6.2 7 0), .ref g28, .ref g29, .int (u_6.2 8 0), .int (u_6.2 9 0)]))]) [1] rfl
      have hDc := hD.sub (ws' := [(mo, .inr (9, [.int (u_6.2 0 0), .int (u_6.2 1 0), .ref g2, .ref g3, .ref g4, .ref g5, .ref g6, .ref g7, .ref g8, .ref g9, .ref g10, .ref g11, .ref g12, .ref g13, .ref g14, .ref g15, .ref g16, .ref g17, .ref g18, .ref g19, .int (u_6.2 2 0), .int (u_6.2 3 0), .ref g22, .int (u_6.2 4 0), .ref g24, .int (u_6.2 5 0), .int (u_6.2 6 0), .int (u_6.2 7 0), .ref g28, .ref g29, .int (u_6.2 8 0), .int (u_6.2 9 0)]))]) [1] (by decide) rfl
      have hFc := va_free (wc := [(mo, .inr (9, [.int (u_6.2 0 0), .int (u_6.2 1 0), .ref g2, .ref g3, .ref g4, .ref g5, .ref g6, .ref g7, .ref g8, .ref g9, .ref g10, .ref g11, .ref g12, .ref g13, .ref g14, .ref g15, .ref g16, .ref g17, .ref g18, .ref g19, .int (u_6.2 2 0), .int (u_6.2 3 0), .ref g22, .int (u_6.2 4 0), .ref g24, .int (u_6.2 5 0), .int (u_6.2 6 0), .int (u_6.2 7 0), .ref g28, .ref g29, .int (u_6.2 8 0), .int (u_6.2 9 0)]))]) hD hS hA [1] rfl
      refine va_calli (va_runV (As := []) (rest := []) ⟨hx, hb, hml, hown, ht⟩ (k9_thrown l D C s.heap.size H.size mo g2 g3 g4 g5 g6 g7 g8 g9 g10 g11 g12 g13 g14 g15 g16 g17 g18 g19 g22 g24 g28 g29 (u_6.2 0 0) (u_6.2 1 0) (u_6.2 2 0) (u_6.2 3 0) (u_6.2 4 0) (u_6.2 5 0) (u_6.2 6 0) (u_6.2 7 0) (u_6.2 8 0) (u_6.2 9 0)) (cwV 0 ht (xg_V m_562 m_563 m_564 m_391 m_221) rfl rfl rfl (by decide +kernel) ⟨Nat.le_of_ble_eq_true rfl, Nat.le_of_ble_eq_true rfl⟩) ⟨xPc_bl, va_recv hK hPc (ci := 9) (q0 := 0) rfl rfl, xPc_at hPc hK hDc hE hS hAb⟩ rfl rfl hl.1 rfl (lv_room (Nat.le_of_ble_eq_true rfl)) dL_law_166 ⟨(by decide), (by decide)⟩) hS (fun q _ h => hFc q h) hFc (fun r_7 u_8 t H1 locs ht1 hvm hw hB hz1 hk1 hS => ?_)
      obtain ⟨hP1, hD1⟩ := hB
      rw [ht1] at hP1
      try dsimp only at hw
      obtain ⟨hP, hD⟩ := va_join (wr := [(ou, .inl (C 2, 1, .inr (.inl (u_3))))]) (w1 := [(mo, .inr (9, [.int (u_6.2 0 0), .int (u_6.2 1 0), .ref g2, .ref g3, .ref g4, .ref g5, .ref g6, .ref g7, .ref g8, .ref g9, .ref g10, .ref g11, .ref g12, .ref g13, .ref g14, .ref g15, .ref g16, .ref g17, .ref g18, .ref g19, .int (u_6.2 2 0), .int (u_6.2 3 0), .ref g22, .int (u_6.2 4 0), .ref g24, .int (u_6.2 5 0), .int (u_6.2 6 0), .int (u_6.2 7 0), .ref g28, .ref g29, .int (u_6.2 8 0), .int (u_6.2 9 0)]))]) hP hD [1] [0] rfl rfl (by decide) (by decide) hk1 hFc hP1 hD1
      generalize H1 = H at hP hS ⊢
      have hP : va_P D vwCl [(ou, .inl (C 2, 1, .inr (.inl (u_3)))), (mo, .inr (9, [.int (u_6.2 0 0), .int (u_6.2 1 0), .ref g2, .ref g3, .ref g4, .ref g5, .ref g6, .ref g7, .ref g8, .ref g9, .ref g10, .ref g11, .ref g12, .ref g13, .ref g14, .ref g15, .ref g16, .ref g17, .ref g18, .ref g19, .int (u_6.2 2 0), .int (u_6.2 3 0), .ref g22, .int (u_6.2 4 0), .ref g24, .int (u_6.2 5 0), .int (u_6.2 6 0), .int (u_6.2 7 0), .ref g28, .ref g29, .int (u_6.2 8 0), .int (u_6.2 9 0)]))] H := hP
      have hD : va_D A [(ou, .inl (C 2, 1, .inr (.inl (u_3)))), (mo, .inr (9, [.int (u_6.2 0 0), .int (u_6.2 1 0), .ref g2, .ref g3, .ref g4, .ref g5, .ref g6, .ref g7, .ref g8, .ref g9, .ref g10, .ref g11, .ref g12, .ref g13, .ref g14, .ref g15, .ref g16, .ref g17, .ref g18, .ref g19, .int (u_6.2 2 0), .int (u_6.2 3 0), .ref g22, .int (u_6.2 4 0), .ref g24, .int (u_6.2 5 0), .int (u_6.2 6 0), .int (u_6.2 7 0), .ref g28, .ref g29, .int (u_6.2 8 0), .int (u_6.2 9 0)]))] := hD
      have hq_166 := hw
      obtain rfl : r_7 = (0 : Int32) := hw.trans z3
      refine lv_iload hx hb dL_law_169 (lv_at hl 1 rfl) ?_
      refine lv_icmp_eq (tgt := 176) hx hb dL_law_171 (by decide) (fun c_171 => ?_) (fun c_171 => ?_)
      rotate_left
      · exact absurd c_171 (by decide)
      refine lv_iload hx hb dL_law_176 (lv_at hl 1 rfl) ?_
      refine lv_if_ne (tgt := 193) hx hb dL_law_178 (by decide) (fun c_178 => ?_) (fun c_178 => ?_)
      · exact absurd c_178 (by decide)
      refine lv_aload_n hx hb dL_law_181 rfl (lv_at hl 3 rfl) ?_
      refine lv_iconst (v := 0) hx hb dL_law_182 (by decide) ?_
      refine va_lald hx hb hK hP 0 2 rfl rfl (by unfold vp_in; decide) dL_law_183 ?_
      refine lv_iload hx hb dL_law_184 (lv_at hl 0 rfl) ?_
      refine lv_i2l hx hb dL_law_186 rfl ?_
      refine W.lcmp hx hb dL_law_187 ?_
      refine lv_topi (fun x_9 ex_9 => ?_)
      obtain rfl : x_9 = (0 : Int32) := ex_9.trans (x_cmp0 (x_atL y3))
      refine lv_if_eq (tgt := 193) hx hb dL_law_188 (by decide) (fun c_188 => ?_) (fun c_188 => ?_)
      rotate_left
      · exact absurd c_188 (by decide)
      refine lv_goto (tgt := 1732) hx hb dL_law_193 (by decide) ?_
      exact lc_end ⟨hl0, hx, hb, hr, hml, hown, ht, hX, hbl, hlocks, hK, hE, hA, hAs, hbA⟩ (by decide) (by decide) hS (lv_sub hl [2, 6] rfl)
    · skip
      exact absurd y1 z1
  · skip
    obtain rfl : r_2 = (1 : Int32) := y2
    refine lv_istore (lv' := [(5, .int 1), (4, .int 0), (3, .ref ou), (2, .ref mo), (1, .ref h0), (0, .ref b)]) hx hb dL_law_151 hl (by decide) rfl (fun ls hl => ?_)
    refine lv_aload_n hx hb dL_law_153 rfl (lv_at hl 3 rfl) ?_
    refine lv_aload_n hx hb dL_law_154 rfl (lv_at hl 5 rfl) ?_
    refine lv_iload hx hb dL_law_155 (lv_at hl 1 rfl) ?_
    refine lv_iconst (v := 1) hx hb dL_law_157 (by decide) ?_
    refine lv_iadd hx hb dL_law_158 ?_
    refine lv_topi (fun x_10 ex_10 => ?_)
    obtain rfl : x_10 = (1 : Int32) := ex_10.trans (by decide)
    refine va_sld hx hb hX hbl hbA hS (by unfold vp_in; decide) dL_law_159 ?_
    have hPc := hP.sub (ws' := [(mo, .inr (9, [.int 0, .int 0, .ref g2, .ref g3, .ref g4, .ref g5, .ref g6, .ref g7, .ref g8, .ref g9, .ref g10, .ref g11, .ref g12, .ref g13, .ref g14, .ref g15, .ref g16, .ref g17, .ref g18, .ref g19, .int 0, .int 0, .ref g22, .int 0, .ref g24, .int 0, .int 0, .int (-1), .ref g28, .ref g29, .int 0, .int 0])), (g2, .inl (C 0, 600, .inl e2)), (g3, .inl (C 0, 600, .inl e3)), (g9, .inl (C 1, 600, .inl e9)), (g10, .inl (C 0, 600, .inl e10))]) [0, 1, 2, 3, 4] rfl
    have hDc := hD.sub (ws' := [(mo, .inr (9, [.int 0, .int 0, .ref g2, .ref g3, .ref g4, .ref g5, .ref g6, .ref g7, .ref g8, .ref g9, .ref g10, .ref g11, .ref g12, .ref g13, .ref g14, .ref g15, .ref g16, .ref g17, .ref g18, .ref g19, .int 0, .int 0, .ref g22, .int 0, .ref g24, .int 0, .int 0, .int (-1), .ref g28, .ref g29, .int 0, .int 0])), (g2, .inl (C 0, 600, .inl e2)), (g3, .inl (C 0, 600, .inl e3)), (g9, .inl (C 1, 600, .inl e9)), (g10, .inl (C 0, 600, .inl e10))]) [0, 1, 2, 3, 4] (by decide) rfl
    have hFc := va_free (wc := [(mo, .inr (9, [.int 0, .int 0, .ref g2, .ref g3, .ref g4, .ref g5, .ref g6, .ref g7, .ref g8, .ref g9, .ref g10, .ref g11, .ref g12, .ref g13, .ref g14, .ref g15, .ref g16, .ref g17, .ref g18, .ref g19, .int 0, .int 0, .ref g22, .int 0, .ref g24, .int 0, .int 0, .int (-1), .ref g28, .ref g29, .int 0, .int 0])), (g2, .inl (C 0, 600, .inl e2)), (g3, .inl (C 0, 600, .inl e3)), (g9, .inl (C 1, 600, .inl e9)), (g10, .inl (C 0, 600, .inl e10))]) hD hS hA [0, 1, 2, 3, 4] rfl
    refine va_calli (va_runV (As := [.int (xs (Int32.toNatClampNeg 1))]) (rest := []) ⟨hx, hb, hml, hown, ht⟩ (k9p_make l D C s.heap.size H.size mo g2 g3 g4 g5 g6 g7 g8 g9 g10 g11 g12 g13 g14 g15 g16 g17 g18 g19 g22 g24 g28 g29 e2 e3 e9 e10 ((xs (Int32.toNatClampNeg 1)))) (cwV 1 ht (xg_V m_559 m_560 m_561 m_391 m_222) rfl rfl rfl (by decide +kernel) ⟨Nat.le_of_ble_eq_true rfl, Nat.le_of_ble_eq_true rfl⟩) ⟨xPc_bl, va_recv hK hPc (ci := 9) (q0 := 0) rfl rfl, xPc_at hPc hK hDc hE hS hAb⟩ rfl rfl hl.1 rfl (lv_room (Nat.le_of_ble_eq_true rfl)) dL_law_160 ⟨(by decide), (by decide)⟩) hS (fun q _ h => hFc q h) hFc (fun r_11 u_12 t H1 locs ht1 hvm hw hB hz1 hk1 hS => ?_)
    obtain ⟨hP1, hD1⟩ := hB
    rw [ht1] at hP1
    try dsimp only at hw
    obtain ⟨hP, hD⟩ := va_join (wr := [(ou, .inl (C 2, 1, .inr (.inl (u_3))))]) (w1 := [(mo, .inr (9, [.int (u_12.2 0 0), .int (u_12.2 1 0), .ref g2, .ref g3, .ref g4, .ref g5, .ref g6, .ref g7, .ref g8, .ref g9, .ref g10, .ref g11, .ref g12, .ref g13, .ref g14, .ref g15, .ref g16, .ref g17, .ref g18, .ref g19, .int (u_12.2 2 0), .int (u_12.2 3 0), .ref g22, .int (u_12.2 4 0), .ref g24, .int (u_12.2 5 0), .int (u_12.2 6 0), .int (u_12.2 7 0), .ref g28, .ref g29, .int (u_12.2 8 0), .int (u_12.2 9 0)]))]) hP hD [0, 1, 2, 3, 4] [5] rfl rfl (by decide) (by decide) hk1 hFc hP1 hD1
    generalize H1 = H at hP hS ⊢
    have hP : va_P D vwCl [(ou, .inl (C 2, 1, .inr (.inl (u_3)))), (mo, .inr (9, [.int (u_12.2 0 0), .int (u_12.2 1 0), .ref g2, .ref g3, .ref g4, .ref g5, .ref g6, .ref g7, .ref g8, .ref g9, .ref g10, .ref g11, .ref g12, .ref g13, .ref g14, .ref g15, .ref g16, .ref g17, .ref g18, .ref g19, .int (u_12.2 2 0), .int (u_12.2 3 0), .ref g22, .int (u_12.2 4 0), .ref g24, .int (u_12.2 5 0), .int (u_12.2 6 0), .int (u_12.2 7 0), .ref g28, .ref g29, .int (u_12.2 8 0), .int (u_12.2 9 0)]))] H := hP
    have hD : va_D A [(ou, .inl (C 2, 1, .inr (.inl (u_3)))), (mo, .inr (9, [.int (u_12.2 0 0), .int (u_12.2 1 0), .ref g2, .ref g3, .ref g4, .ref g5, .ref g6, .ref g7, .ref g8, .ref g9, .ref g10, .ref g11, .ref g12, .ref g13, .ref g14, .ref g15, .ref g16, .ref g17, .ref g18, .ref g19, .int (u_12.2 2 0), .int (u_12.2 3 0), .ref g22, .int (u_12.2 4 0), .ref g24, .int (u_12.2 5 0), .int (u_12.2 6 0), .int (u_12.2 7 0), .ref g28, .ref g29, .int (u_12.2 8 0), .int (u_12.2 9 0)]))] := hD
    have hq_160 := hw
    rcases hq_160 with ⟨z1, z2, z3⟩ | ⟨z1, z3⟩
    · skip
      exact absurd z1 y1
    · skip
      refine lv_istore (lv' := [(6, .int r_11), (5, .int 1), (4, .int 0), (3, .ref ou), (2, .ref mo), (1, .ref h0), (0, .ref b)]) hx hb dL_law_163 hl (by decide) rfl (fun ls hl => ?_)
      refine lv_aload_n hx hb dL_law_165 rfl (lv_at hl 4 rfl) ?_
      have hPc := hP.sub (ws' := [(mo, .inr (9, [.int (u_12.2 0 0), .int (u_12.2 1 0), .ref g2, .ref g3, .ref g4, .ref g5, .ref g6, .ref g7, .ref g8, .ref g9, .ref g10, .ref g11, .ref g12, .ref g13, .ref g14, .ref g15, .ref g16, .ref g17, .ref g18, .ref g19, .int (u_12.2 2 0), .int (u_12.2 3 0), .ref g22, .int (u_12.2 4 0), .ref g24, .int (u_12.2 5 0), .int (u_12.2 6 0), .int (u_12.2 7 0), .ref g28, .ref g29, .int (u_12.2 8 0), .int (u_12.2 9 0)]))]) [1] rfl
      have hDc := hD.sub (ws' := [(mo, .inr (9, [.int (u_12.2 0 0), .int (u_12.2 1 0), .ref g2, .ref g3, .ref g4, .ref g5, .ref g6, .ref g7, .ref g8, .ref g9, .ref g10, .ref g11, .ref g12, .ref g13, .ref g14, .ref g15, .ref g16, .ref g17, .ref g18, .ref g19, .int (u_12.2 2 0), .int (u_12.2 3 0), .ref g22, .int (u_12.2 4 0), .ref g24, .int (u_12.2 5 0), .int (u_12.2 6 0), .int (u_12.2 7 0), .ref g28, .ref g29, .int (u_12.2 8 0), .int (u_12.2 9 0)]))]) [1] (by decide) rfl
      have hFc := va_free (wc := [(mo, .inr (9, [.int (u_12.2 0 0), .int (u_12.2 1 0), .ref g2, .ref g3, .ref g4, .ref g5, .ref g6, .ref g7, .ref g8, .ref g9, .ref g10, .ref g11, .ref g12, .ref g13, .ref g14, .ref g15, .ref g16, .ref g17, .ref g18, .ref g19, .int (u_12.2 2 0), .int (u_12.2 3 0), .ref g22, .int (u_12.2 4 0), .ref g24, .int (u_12.2 5 0), .int (u_12.2 6 0), .int (u_12.2 7 0), .ref g28, .ref g29, .int (u_12.2 8 0), .int (u_12.2 9 0)]))]) hD hS hA [1] rfl
      refine va_calli (va_runV (As := []) (rest := []) ⟨hx, hb, hml, hown, ht⟩ (k9_thrown l D C s.heap.size H.size mo g2 g3 g4 g5 g6 g7 g8 g9 g10 g11 g12 g13 g14 g15 g16 g17 g18 g19 g22 g24 g28 g29 (u_12.2 0 0) (u_12.2 1 0) (u_12.2 2 0) (u_12.2 3 0) (u_12.2 4 0) (u_12.2 5 0) (u_12.2 6 0) (u_12.2 7 0) (u_12.2 8 0) (u_12.2 9 0)) (cwV 0 ht (xg_V m_562 m_563 m_564 m_391 m_221) rfl rfl rfl (by decide +kernel) ⟨Nat.le_of_ble_eq_true rfl, Nat.le_of_ble_eq_true rfl⟩) ⟨xPc_bl, va_recv hK hPc (ci := 9) (q0 := 0) rfl rfl, xPc_at hPc hK hDc hE hS hAb⟩ rfl rfl hl.1 rfl (lv_room (Nat.le_of_ble_eq_true rfl)) dL_law_166 ⟨(by decide), (by decide)⟩) hS (fun q _ h => hFc q h) hFc (fun r_13 u_14 t H1 locs ht1 hvm hw hB hz1 hk1 hS => ?_)
      obtain ⟨hP1, hD1⟩ := hB
      rw [ht1] at hP1
      try dsimp only at hw
      obtain ⟨hP, hD⟩ := va_join (wr := [(ou, .inl (C 2, 1, .inr (.inl (u_3))))]) (w1 := [(mo, .inr (9, [.int (u_12.2 0 0), .int (u_12.2 1 0), .ref g2, .ref g3, .ref g4, .ref g5, .ref g6, .ref g7, .ref g8, .ref g9, .ref g10, .ref g11, .ref g12, .ref g13, .ref g14, .ref g15, .ref g16, .ref g17, .ref g18, .ref g19, .int (u_12.2 2 0), .int (u_12.2 3 0), .ref g22, .int (u_12.2 4 0), .ref g24, .int (u_12.2 5 0), .int (u_12.2 6 0), .int (u_12.2 7 0), .ref g28, .ref g29, .int (u_12.2 8 0), .int (u_12.2 9 0)]))]) hP hD [1] [0] rfl rfl (by decide) (by decide) hk1 hFc hP1 hD1
      generalize H1 = H at hP hS ⊢
      have hP : va_P D vwCl [(ou, .inl (C 2, 1, .inr (.inl (u_3)))), (mo, .inr (9, [.int (u_12.2 0 0), .int (u_12.2 1 0), .ref g2, .ref g3, .ref g4, .ref g5, .ref g6, .ref g7, .ref g8, .ref g9, .ref g10, .ref g11, .ref g12, .ref g13, .ref g14, .ref g15, .ref g16, .ref g17, .ref g18, .ref g19, .int (u_12.2 2 0), .int (u_12.2 3 0), .ref g22, .int (u_12.2 4 0), .ref g24, .int (u_12.2 5 0), .int (u_12.2 6 0), .int (u_12.2 7 0), .ref g28, .ref g29, .int (u_12.2 8 0), .int (u_12.2 9 0)]))] H := hP
      have hD : va_D A [(ou, .inl (C 2, 1, .inr (.inl (u_3)))), (mo, .inr (9, [.int (u_12.2 0 0), .int (u_12.2 1 0), .ref g2, .ref g3, .ref g4, .ref g5, .ref g6, .ref g7, .ref g8, .ref g9, .ref g10, .ref g11, .ref g12, .ref g13, .ref g14, .ref g15, .ref g16, .ref g17, .ref g18, .ref g19, .int (u_12.2 2 0), .int (u_12.2 3 0), .ref g22, .int (u_12.2 4 0), .ref g24, .int (u_12.2 5 0), .int (u_12.2 6 0), .int (u_12.2 7 0), .ref g28, .ref g29, .int (u_12.2 8 0), .int (u_12.2 9 0)]))] := hD
      have hq_166 := hw
      obtain rfl : r_13 = (1 : Int32) := hw.trans z3
      refine lv_iload hx hb dL_law_169 (lv_at hl 1 rfl) ?_
      refine lv_icmp_eq (tgt := 176) hx hb dL_law_171 (by decide) (fun c_171 => ?_) (fun c_171 => ?_)
      rotate_left
      · exact absurd c_171 (by decide)
      refine lv_iload hx hb dL_law_176 (lv_at hl 1 rfl) ?_
      refine lv_if_ne (tgt := 193) hx hb dL_law_178 (by decide) (fun c_178 => ?_) (fun c_178 => ?_)
      rotate_left
      · exact absurd c_178 (by decide)
      refine lv_goto (tgt := 1732) hx hb dL_law_193 (by decide) ?_
      exact lc_end ⟨hl0, hx, hb, hr, hml, hown, ht, hX, hbl, hlocks, hK, hE, hA, hAs, hbA⟩ (by decide) (by decide) hS (lv_sub hl [2, 6] rfl)
set_option maxHeartbeats 4000000 in
set_option maxRecDepth 100000 in
theorem lc_array {p : Program} {l : Launch} {e : Env} {s : State} {m : MethodId} {below : List Frame} {meth : Method} {c : Code} {b : Nat} {xs : Nat → Int32} {D : va_G} {C : Nat → ClassId} {A : Nat → Prop} {h0 s0 de kl tl cu hk ca kx ky tx ty a0 a1 a2 a3 a4 a5 a6 a7 a8 a9 a10 a11 ou mo g2 g3 g4 g5 g6 g7 g8 g9 g10 g11 g12 g13 g14 g15 g16 g17 g18 g19 g22 g24 g28 g29 : Nat} {e10 e11 e12 e13 e14 e15 e16 e17 e18 e19 e2 e3 e9 f0 f1 f10 f11 f2 f3 f7 f8 f9 : Nat → Int32} {fo : Nat → Int64} (h : lAt p l s m meth c b 6 xs D C A) {H : Heap} {locs : List Loc} {ls : Array Slot} (hP : va_P D vwCl [(h0, .inr (5, [.ref s0, .ref de, .ref kl, .ref tl, .ref cu, .ref hk, .ref ca, .int 0, .int 0, .int (-1), .int 0, .int 0])), (kl, .inr (2, [.ref kx, .ref ky, .int 0])), (tl, .inr (4, [.ref tx, .ref ty, .int 1])), (s0, .inr (3, [.ref a0, .ref a1, .ref a2, .ref a3, .ref a4, .ref a5, .ref a6, .int 0, .ref a7, .ref a8, .ref a9, .ref a10, .ref a11, .int 0])), (a0, .inl (C 0, 600, .inl f0)), (a1, .inl (C 0, 600, .inl f1)), (a2, .inl (C 1, 600, .inl f2)), (a3, .inl (C 0, 600, .inl f3)), (a7, .inl (C 0, 5999, .inl f7)), (a8, .inl (C 0, 5999, .inl f8)), (a9, .inl (C 0, 5999, .inl f9)), (a10, .inl (C 0, 5999, .inl f10)), (a11, .inl (C 0, 5999, .inl f11)), (ou, .inl (C 2, 1, .inr (.inl fo))), (mo, .inr (9, [.int 0, .int 0, .ref g2, .ref g3, .ref g4, .ref g5, .ref g6, .ref g7, .ref g8, .ref g9, .ref g10, .ref g11, .ref g12, .ref g13, .ref g14, .ref g15, .ref g16, .ref g17, .ref g18, .ref g19, .int 0, .int 0, .ref g22, .int 0, .ref g24, .int 0, .int 0, .int (-1), .ref g28, .ref g29, .int 0, .int 0])), (g2, .inl (C 0, 600, .inl e2)), (g3, .inl (C 0, 600, .inl e3)), (g9, .inl (C 1, 600, .inl e9)), (g10, .inl (C 0, 600, .inl e10)), (g11, .inl (C 0, 6000, .inl e11)), (g12, .inl (C 0, 6000, .inl e12)), (g13, .inl (C 0, 6000, .inl e13)), (g14, .inl (C 0, 6000, .inl e14)), (g15, .inl (C 0, 6000, .inl e15)), (g16, .inl (C 1, 6000, .inl e16)), (g17, .inl (C 1, 6000, .inl e17)), (g18, .inl (C 1, 6000, .inl e18)), (g19, .inl (C 1, 6000, .inl e19))] H) (hD : va_D A [(h0, .inr (5, [.ref s0, .ref de, .ref kl, .ref tl, .ref cu, .ref hk, .ref ca, .int 0, .int 0, .int (-1), .int 0, .int 0])), (kl, .inr (2, [.ref kx, .ref ky, .int 0])), (tl, .inr (4, [.ref tx, .ref ty, .int 1])), (s0, .inr (3, [.ref a0, .ref a1, .ref a2, .ref a3, .ref a4, .ref a5, .ref a6, .int 0, .ref a7, .ref a8, .ref a9, .ref a10, .ref a11, .int 0])), (a0, .inl (C 0, 600, .inl f0)), (a1, .inl (C 0, 600, .inl f1)), (a2, .inl (C 1, 600, .inl f2)), (a3, .inl (C 0, 600, .inl f3)), (a7, .inl (C 0, 5999, .inl f7)), (a8, .inl (C 0, 5999, .inl f8)), (a9, .inl (C 0, 5999, .inl f9)), (a10, .inl (C 0, 5999, .inl f10)), (a11, .inl (C 0, 5999, .inl f11)), (ou, .inl (C 2, 1, .inr (.inl fo))), (mo, .inr (9, [.int 0, .int 0, .ref g2, .ref g3, .ref g4, .ref g5, .ref g6, .ref g7, .ref g8, .ref g9, .ref g10, .ref g11, .ref g12, .ref g13, .ref g14, .ref g15, .ref g16, .ref g17, .ref g18, .ref g19, .int 0, .int 0, .ref g22, .int 0, .ref g24, .int 0, .int 0, .int (-1), .ref g28, .ref g29, .int 0, .int 0])), (g2, .inl (C 0, 600, .inl e2)), (g3, .inl (C 0, 600, .inl e3)), (g9, .inl (C 1, 600, .inl e9)), (g10, .inl (C 0, 600, .inl e10)), (g11, .inl (C 0, 6000, .inl e11)), (g12, .inl (C 0, 6000, .inl e12)), (g13, .inl (C 0, 6000, .inl e13)), (g14, .inl (C 0, 6000, .inl e14)), (g15, .inl (C 0, 6000, .inl e15)), (g16, .inl (C 1, 6000, .inl e16)), (g17, .inl (C 1, 6000, .inl e17)), (g18, .inl (C 1, 6000, .inl e18)), (g19, .inl (C 1, 6000, .inl e19))]) (hS : va_S A s.heap H locs) (hl : lv_has ls 7 [(4, .int 0), (3, .ref ou), (2, .ref mo), (1, .ref h0), (0, .ref b)]) : W p l e room_1 s m #[Value.ref b] below meth c H locs 254 111937 (lw_Z below #[Value.ref b] s) (F0 m 196 ls []) := by
  obtain ⟨hl0, hx, hb, hr, hml, hown, ht, hX, hbl, hlocks, hK, hE, hA, hAs, hbA⟩ := h
  have hAb := hAs
  refine lv_aload_n hx hb dL_law_196 rfl (lv_at hl 3 rfl) ?_
  refine lv_aload_n hx hb dL_law_197 rfl (lv_at hl 4 rfl) ?_
  refine lv_iload hx hb dL_law_198 (lv_at hl 0 rfl) ?_
  refine lv_iconst (v := 1) hx hb dL_law_200 (by decide) ?_
  refine lv_iadd hx hb dL_law_201 ?_
  refine lv_topi (fun x_1 ex_1 => ?_)
  obtain rfl : x_1 = (1 : Int32) := ex_1.trans (by decide)
  refine va_sld hx hb hX hbl hbA hS (by unfold vp_in; decide) dL_law_202 ?_
  refine lv_aload_n hx hb dL_law_203 rfl (lv_at hl 1 rfl) ?_
  have hPc := hP.sub (ws' := [(h0, .inr (5, [.ref s0, .ref de, .ref kl, .ref tl, .ref cu, .ref hk, .ref ca, .int 0, .int 0, .int (-1), .int 0, .int 0])), (kl, .inr (2, [.ref kx, .ref ky, .int 0])), (tl, .inr (4, [.ref tx, .ref ty, .int 1])), (s0, .inr (3, [.ref a0, .ref a1, .ref a2, .ref a3, .ref a4, .ref a5, .ref a6, .int 0, .ref a7, .ref a8, .ref a9, .ref a10, .ref a11, .int 0])), (a0, .inl (C 0, 600, .inl f0)), (a1, .inl (C 0, 600, .inl f1)), (a2, .inl (C 1, 600, .inl f2)), (a3, .inl (C 0, 600, .inl f3)), (a7, .inl (C 0, 5999, .inl f7)), (a8, .inl (C 0, 5999, .inl f8)), (a9, .inl (C 0, 5999, .inl f9)), (a10, .inl (C 0, 5999, .inl f10)), (a11, .inl (C 0, 5999, .inl f11)), (ou, .inl (C 2, 1, .inr (.inl fo)))]) [0, 1, 2, 3, 4, 5, 6, 7, 8, 9, 10, 11, 12, 13] rfl
  have hDc := hD.sub (ws' := [(h0, .inr (5, [.ref s0, .ref de, .ref kl, .ref tl, .ref cu, .ref hk, .ref ca, .int 0, .int 0, .int (-1), .int 0, .int 0])), (kl, .inr (2, [.ref kx, .ref ky, .int 0])), (tl, .inr (4, [.ref tx, .ref ty, .int 1])), (s0, .inr (3, [.ref a0, .ref a1, .ref a2, .ref a3, .ref a4, .ref a5, .ref a6, .int 0, .ref a7, .ref a8, .ref a9, .ref a10, .ref a11, .int 0])), (a0, .inl (C 0, 600, .inl f0)), (a1, .inl (C 0, 600, .inl f1)), (a2, .inl (C 1, 600, .inl f2)), (a3, .inl (C 0, 600, .inl f3)), (a7, .inl (C 0, 5999, .inl f7)), (a8, .inl (C 0, 5999, .inl f8)), (a9, .inl (C 0, 5999, .inl f9)), (a10, .inl (C 0, 5999, .inl f10)), (a11, .inl (C 0, 5999, .inl f11)), (ou, .inl (C 2, 1, .inr (.inl fo)))]) [0, 1, 2, 3, 4, 5, 6, 7, 8, 9, 10, 11, 12, 13] (by decide) rfl
  have hFc := va_free (wc := [(h0, .inr (5, [.ref s0, .ref de, .ref kl, .ref tl, .ref cu, .ref hk, .ref ca, .int 0, .int 0, .int (-1), .int 0, .int 0])), (kl, .inr (2, [.ref kx, .ref ky, .int 0])), (tl, .inr (4, [.ref tx, .ref ty, .int 1])), (s0, .inr (3, [.ref a0, .ref a1, .ref a2, .ref a3, .ref a4, .ref a5, .ref a6, .int 0, .ref a7, .ref a8, .ref a9, .ref a10, .ref a11, .int 0])), (a0, .inl (C 0, 600, .inl f0)), (a1, .inl (C 0, 600, .inl f1)), (a2, .inl (C 1, 600, .inl f2)), (a3, .inl (C 0, 600, .inl f3)), (a7, .inl (C 0, 5999, .inl f7)), (a8, .inl (C 0, 5999, .inl f8)), (a9, .inl (C 0, 5999, .inl f9)), (a10, .inl (C 0, 5999, .inl f10)), (a11, .inl (C 0, 5999, .inl f11)), (ou, .inl (C 2, 1, .inr (.inl fo)))]) hD hS hA [0, 1, 2, 3, 4, 5, 6, 7, 8, 9, 10, 11, 12, 13] rfl
  refine va_calli (vx_runSW (As := [.ref h0, .int (xs (Int32.toNatClampNeg 1)), .ref ou]) (rest := []) ⟨hx, hb, hml, hown, ht⟩ (kL_array l hl0 D C s.heap.size H.size h0 s0 de kl tl cu hk ca kx ky tx ty a0 a1 a2 a3 a4 a5 a6 a7 a8 a9 a10 a11 f0 f1 f2 f3 f7 f8 f9 f10 f11 ((xs (Int32.toNatClampNeg 1))) ou fo) (vx_cwSW 3 ht (xg_T m_565 m_566 m_558 m_470) rfl rfl rfl (by decide +kernel) ⟨Nat.le_of_ble_eq_true rfl, Nat.le_of_ble_eq_true rfl⟩) ⟨xPc_bl, xPc_at hPc hK hDc hE hS hAb⟩ rfl rfl hl.1 rfl (lv_room (Nat.le_of_ble_eq_true rfl)) dL_law_204 ⟨(by decide), (by decide)⟩) hS (fun q _ h => hFc q h) hFc (fun r_2 u_3 t H1 locs ht1 hvm hw hB hz1 hk1 hS => ?_)
  obtain ⟨hP1, hD1⟩ := hB
  rw [ht1] at hP1
  try dsimp only at hw
  obtain ⟨hP, hD⟩ := va_join (wr := [(mo, .inr (9, [.int 0, .int 0, .ref g2, .ref g3, .ref g4, .ref g5, .ref g6, .ref g7, .ref g8, .ref g9, .ref g10, .ref g11, .ref g12, .ref g13, .ref g14, .ref g15, .ref g16, .ref g17, .ref g18, .ref g19, .int 0, .int 0, .ref g22, .int 0, .ref g24, .int 0, .int 0, .int (-1), .ref g28, .ref g29, .int 0, .int 0])), (g2, .inl (C 0, 600, .inl e2)), (g3, .inl (C 0, 600, .inl e3)), (g9, .inl (C 1, 600, .inl e9)), (g10, .inl (C 0, 600, .inl e10)), (g11, .inl (C 0, 6000, .inl e11)), (g12, .inl (C 0, 6000, .inl e12)), (g13, .inl (C 0, 6000, .inl e13)), (g14, .inl (C 0, 6000, .inl e14)), (g15, .inl (C 0, 6000, .inl e15)), (g16, .inl (C 1, 6000, .inl e16)), (g17, .inl (C 1, 6000, .inl e17)), (g18, .inl (C 1, 6000, .inl e18)), (g19, .inl (C 1, 6000, .inl e19))]) (w1 := [(ou, .inl (C 2, 1, .inr (.inl (u_3))))]) hP hD [0, 1, 2, 3, 4, 5, 6, 7, 8, 9, 10, 11, 12, 13] [14, 15, 16, 17, 18, 19, 20, 21, 22, 23, 24, 25, 26, 27] rfl rfl (by decide) (by decide) hk1 hFc hP1 hD1
  generalize H1 = H at hP hS ⊢
  have hP : va_P D vwCl [(mo, .inr (9, [.int 0, .int 0, .ref g2, .ref g3, .ref g4, .ref g5, .ref g6, .ref g7, .ref g8, .ref g9, .ref g10, .ref g11, .ref g12, .ref g13, .ref g14, .ref g15, .ref g16, .ref g17, .ref g18, .ref g19, .int 0, .int 0, .ref g22, .int 0, .ref g24, .int 0, .int 0, .int (-1), .ref g28, .ref g29, .int 0, .int 0])), (g2, .inl (C 0, 600, .inl e2)), (g3, .inl (C 0, 600, .inl e3)), (g9, .inl (C 1, 600, .inl e9)), (g10, .inl (C 0, 600, .inl e10)), (g11, .inl (C 0, 6000, .inl e11)), (g12, .inl (C 0, 6000, .inl e12)), (g13, .inl (C 0, 6000, .inl e13)), (g14, .inl (C 0, 6000, .inl e14)), (g15, .inl (C 0, 6000, .inl e15)), (g16, .inl (C 1, 6000, .inl e16)), (g17, .inl (C 1, 6000, .inl e17)), (g18, .inl (C 1, 6000, .inl e18)), (g19, .inl (C 1, 6000, .inl e19)), (ou, .inl (C 2, 1, .inr (.inl (u_3))))] H := hP
  have hD : va_D A [(mo, .inr (9, [.int 0, .int 0, .ref g2, .ref g3, .ref g4, .ref g5, .ref g6, .ref g7, .ref g8, .ref g9, .ref g10, .ref g11, .ref g12, .ref g13, .ref g14, .ref g15, .ref g16, .ref g17, .ref g18, .ref g19, .int 0, .int 0, .ref g22, .int 0, .ref g24, .int 0, .int 0, .int (-1), .ref g28, .ref g29, .int 0, .int 0])), (g2, .inl (C 0, 600, .inl e2)), (g3, .inl (C 0, 600, .inl e3)), (g9, .inl (C 1, 600, .inl e9)), (g10, .inl (C 0, 600, .inl e10)), (g11, .inl (C 0, 6000, .inl e11)), (g12, .inl (C 0, 6000, .inl e12)), (g13, .inl (C 0, 6000, .inl e13)), (g14, .inl (C 0, 6000, .inl e14)), (g15, .inl (C 0, 6000, .inl e15)), (g16, .inl (C 1, 6000, .inl e16)), (g17, .inl (C 1, 6000, .inl e17)), (g18, .inl (C 1, 6000, .inl e18)), (g19, .inl (C 1, 6000, .inl e19)), (ou, .inl (C 2, 1, .inr (.inl (u_3))))] := hD
  have hq_204 := hw
  refine W.widen (k := 257) (n := 111955) (by decide) (by decide) ?_
  rcases hq_204 with ⟨y1, y2, y3⟩ | ⟨y1, y2⟩
  · skip
    obtain rfl : r_2 = (0 : Int32) := y2
    refine lv_istore (lv' := [(5, .int 0), (4, .int 0), (3, .ref ou), (2, .ref mo), (1, .ref h0), (0, .ref b)]) hx hb dL_law_207 hl (by decide) rfl (fun ls hl => ?_)
    refine lv_aload_n hx hb dL_law_209 rfl (lv_at hl 3 rfl) ?_
    refine lv_aload_n hx hb dL_law_210 rfl (lv_at hl 5 rfl) ?_
    refine lv_iload hx hb dL_law_211 (lv_at hl 1 rfl) ?_
    refine lv_iconst (v := 1) hx hb dL_law_213 (by decide) ?_
    refine lv_iadd hx hb dL_law_214 ?_
    refine lv_topi (fun x_4 ex_4 => ?_)
    obtain rfl : x_4 = (1 : Int32) := ex_4.trans (by decide)
    refine va_sld hx hb hX hbl hbA hS (by unfold vp_in; decide) dL_law_215 ?_
    have hPc := hP.sub (ws' := [(mo, .inr (9, [.int 0, .int 0, .ref g2, .ref g3, .ref g4, .ref g5, .ref g6, .ref g7, .ref g8, .ref g9, .ref g10, .ref g11, .ref g12, .ref g13, .ref g14, .ref g15, .ref g16, .ref g17, .ref g18, .ref g19, .int 0, .int 0, .ref g22, .int 0, .ref g24, .int 0, .int 0, .int (-1), .ref g28, .ref g29, .int 0, .int 0])), (g2, .inl (C 0, 600, .inl e2)), (g3, .inl (C 0, 600, .inl e3)), (g9, .inl (C 1, 600, .inl e9)), (g10, .inl (C 0, 600, .inl e10)), (g11, .inl (C 0, 6000, .inl e11)), (g12, .inl (C 0, 6000, .inl e12)), (g13, .inl (C 0, 6000, .inl e13)), (g14, .inl (C 0, 6000, .inl e14)), (g15, .inl (C 0, 6000, .inl e15)), (g16, .inl (C 1, 6000, .inl e16)), (g17, .inl (C 1, 6000, .inl e17)), (g18, .inl (C 1, 6000, .inl e18)), (g19, .inl (C 1, 6000, .inl e19))]) [0, 1, 2, 3, 4, 5, 6, 7, 8, 9, 10, 11, 12, 13] rfl
    have hDc := hD.sub (ws' := [(mo, .inr (9, [.int 0, .int 0, .ref g2, .ref g3, .ref g4, .ref g5, .ref g6, .ref g7, .ref g8, .ref g9, .ref g10, .ref g11, .ref g12, .ref g13, .ref g14, .ref g15, .ref g16, .ref g17, .ref g18, .ref g19, .int 0, .int 0, .ref g22, .int 0, .ref g24, .int 0, .int 0, .int (-1), .ref g28, .ref g29, .int 0, .int 0])), (g2, .inl (C 0, 600, .inl e2)), (g3, .inl (C 0, 600, .inl e3)), (g9, .inl (C 1, 600, .inl e9)), (g10, .inl (C 0, 600, .inl e10)), (g11, .inl (C 0, 6000, .inl e11)), (g12, .inl (C 0, 6000, .inl e12)), (g13, .inl (C 0, 6000, .inl e13)), (g14, .inl (C 0, 6000, .inl e14)), (g15, .inl (C 0, 6000, .inl e15)), (g16, .inl (C 1, 6000, .inl e16)), (g17, .inl (C 1, 6000, .inl e17)), (g18, .inl (C 1, 6000, .inl e18)), (g19, .inl (C 1, 6000, .inl e19))]) [0, 1, 2, 3, 4, 5, 6, 7, 8, 9, 10, 11, 12, 13] (by decide) rfl
    have hFc := va_free (wc := [(mo, .inr (9, [.int 0, .int 0, .ref g2, .ref g3, .ref g4, .ref g5, .ref g6, .ref g7, .ref g8, .ref g9, .ref g10, .ref g11, .ref g12, .ref g13, .ref g14, .ref g15, .ref g16, .ref g17, .ref g18, .ref g19, .int 0, .int 0, .ref g22, .int 0, .ref g24, .int 0, .int 0, .int (-1), .ref g28, .ref g29, .int 0, .int 0])), (g2, .inl (C 0, 600, .inl e2)), (g3, .inl (C 0, 600, .inl e3)), (g9, .inl (C 1, 600, .inl e9)), (g10, .inl (C 0, 600, .inl e10)), (g11, .inl (C 0, 6000, .inl e11)), (g12, .inl (C 0, 6000, .inl e12)), (g13, .inl (C 0, 6000, .inl e13)), (g14, .inl (C 0, 6000, .inl e14)), (g15, .inl (C 0, 6000, .inl e15)), (g16, .inl (C 1, 6000, .inl e16)), (g17, .inl (C 1, 6000, .inl e17)), (g18, .inl (C 1, 6000, .inl e18)), (g19, .inl (C 1, 6000, .inl e19))]) hD hS hA [0, 1, 2, 3, 4, 5, 6, 7, 8, 9, 10, 11, 12, 13] rfl
    refine va_calli (vx_runVW (As := [.int (xs (Int32.toNatClampNeg 1))]) (rest := []) ⟨hx, hb, hml, hown, ht⟩ (k9p_array l D C s.heap.size H.size mo g2 g3 g4 g5 g6 g7 g8 g9 g10 g11 g12 g13 g14 g15 g16 g17 g18 g19 g22 g24 g28 g29 e2 e3 e9 e10 e11 e12 e13 e14 e15 e16 e17 e18 e19 ((xs (Int32.toNatClampNeg 1)))) (vx_cwVW 1 ht (xg_V m_567 m_568 m_569 m_391 m_223) rfl rfl rfl (by decide +kernel) ⟨Nat.le_of_ble_eq_true rfl, Nat.le_of_ble_eq_true rfl⟩) ⟨xPc_bl, va_recv hK hPc (ci := 9) (q0 := 0) rfl rfl, xPc_at hPc hK hDc hE hS hAb⟩ rfl rfl hl.1 rfl (lv_room (Nat.le_of_ble_eq_true rfl)) dL_law_216 ⟨(by decide), (by decide)⟩) hS (fun q _ h => hFc q h) hFc (fun r_5 u_6 t H1 locs ht1 hvm hw hB hz1 hk1 hS => ?_)
    obtain ⟨hP1, hD1⟩ := hB
    rw [ht1] at hP1
    try dsimp only at hw
    obtain ⟨hP, hD⟩ := va_join (wr := [(ou, .inl (C 2, 1, .inr (.inl (u_3))))]) (w1 := [(mo, .inr (9, [.int (u_6.2 0 0), .int (u_6.2 1 0), .ref g2, .ref g3, .ref g4, .ref g5, .ref g6, .ref g7, .ref g8, .ref g9, .ref g10, .ref g11, .ref g12, .ref g13, .ref g14, .ref g15, .ref g16, .ref g17, .ref g18, .ref g19, .int (u_6.2 2 0), .int (u_6.2 3 0), .ref g22, .int (u_6.2 4 0), .ref g24, .int (u_6.2 5 0), .int (u_6.2 6 0), .int (u_6.2 7 0), .ref g28, .ref g29, .int (u_6.2 8 0), .int (u_6.2 9 0)]))]) hP hD [0, 1, 2, 3, 4, 5, 6, 7, 8, 9, 10, 11, 12, 13] [14] rfl rfl (by decide) (by decide) hk1 hFc hP1 hD1
    generalize H1 = H at hP hS ⊢
    have hP : va_P D vwCl [(ou, .inl (C 2, 1, .inr (.inl (u_3)))), (mo, .inr (9, [.int (u_6.2 0 0), .int (u_6.2 1 0), .ref g2, .ref g3, .ref g4, .ref g5, .ref g6, .ref g7, .ref g8, .ref g9, .ref g10, .ref g11, .ref g12, .ref g13, .ref g14, .ref g15, .ref g16, .ref g17, .ref g18, .ref g19, .int (u_6.2 2 0), .int (u_6.2 3 0), .ref g22, .int (u_6.2 4 0), .ref g24, .int (u_6.2 5 0), .int (u_6.2 6 0), .int (u_6.2 7 0), .ref g28, .ref g29, .int (u_6.2 8 0), .int (u_6.2 9 0)]))] H := hP
    have hD : va_D A [(ou, .inl (C 2, 1, .inr (.inl (u_3)))), (mo, .inr (9, [.int (u_6.2 0 0), .int (u_6.2 1 0), .ref g2, .ref g3, .ref g4, .ref g5, .ref g6, .ref g7, .ref g8, .ref g9, .ref g10, .ref g11, .ref g12, .ref g13, .ref g14, .ref g15, .ref g16, .ref g17, .ref g18, .ref g19, .int (u_6.2 2 0), .int (u_6.2 3 0), .ref g22, .int (u_6.2 4 0), .ref g24, .int (u_6.2 5 0), .int (u_6.2 6 0), .int (u_6.2 7 0), .ref g28, .ref g29, .int (u_6.2 8 0), .int (u_6.2 9 0)]))] := hD
    have hq_216 := hw
    rcases hq_216 with ⟨z1, z2, z3⟩ | ⟨z1, z3⟩
    · skip
      obtain rfl : r_5 = (-2 : Int32) := z2
      refine lv_istore (lv' := [(6, .int (-2)), (5, .int 0), (4, .int 0), (3, .ref ou), (2, .ref mo), (1, .ref h0), (0, .ref b)]) hx hb dL_law_219 hl (by decide) rfl (fun ls hl => ?_)
      refine lv_aload_n hx hb dL_law_221 rfl (lv_at hl 4 rfl) ?_
      have hPc := hP.sub (ws' := [(mo, .inr (9, [.int (u_6.2 0 0), .int (u_6.2 1 0), .ref g2, .ref g3, .ref g4, .ref g5, .ref g6, .ref g7, .ref g8, .ref g9, .ref g10, .ref g11, .ref g12, .ref g13, .ref g14, .ref g15, .ref g16, .ref g17, .ref g18, .ref g19, .int (u_6.2 2 0), .int (u_6.2 3 0), .ref g22, .int (u_6.2 4 0), .ref g24, .int (u_6.2 5 0), .int (u_6.2 6 0), .int (u_6.2 7 0), .ref g28, .ref g29, .int (u_6.2 8 0), .int (u_6.2 9 0)]))]) [1] rfl
      have hDc := hD.sub (ws' := [(mo, .inr (9, [.int (u_6.2 0 0), .int (u_6.2 1 0), .ref g2, .ref g3, .ref g4, .ref g5, .ref g6, .ref g7, .ref g8, .ref g9, .ref g10, .ref g11, .ref g12, .ref g13, .ref g14, .ref g15, .ref g16, .ref g17, .ref g18, .ref g19, .int (u_6.2 2 0), .int (u_6.2 3 0), .ref g22, .int (u_6.2 4 0), .ref g24, .int (u_6.2 5 0), .int (u_6.2 6 0), .int (u_6.2 7 0), .ref g28, .ref g29, .int (u_6.2 8 0), .int (u_6.2 9 0)]))]) [1] (by decide) rfl
      have hFc := va_free (wc := [(mo, .inr (9, [.int (u_6.2 0 0), .int (u_6.2 1 0), .ref g2, .ref g3, .ref g4, .ref g5, .ref g6, .ref g7, .ref g8, .ref g9, .ref g10, .ref g11, .ref g12, .ref g13, .ref g14, .ref g15, .ref g16, .ref g17, .ref g18, .ref g19, .int (u_6.2 2 0), .int (u_6.2 3 0), .ref g22, .int (u_6.2 4 0), .ref g24, .int (u_6.2 5 0), .int (u_6.2 6 0), .int (u_6.2 7 0), .ref g28, .ref g29, .int (u_6.2 8 0), .int (u_6.2 9 0)]))]) hD hS hA [1] rfl
      refine va_calli (va_runV (As := []) (rest := []) ⟨hx, hb, hml, hown, ht⟩ (k9_thrown l D C s.heap.size H.size mo g2 g3 g4 g5 g6 g7 g8 g9 g10 g11 g12 g13 g14 g15 g16 g17 g18 g19 g22 g24 g28 g29 (u_6.2 0 0) (u_6.2 1 0) (u_6.2 2 0) (u_6.2 3 0) (u_6.2 4 0) (u_6.2 5 0) (u_6.2 6 0) (u_6.2 7 0) (u_6.2 8 0) (u_6.2 9 0)) (cwV 0 ht (xg_V m_562 m_563 m_564 m_391 m_221) rfl rfl rfl (by decide +kernel) ⟨Nat.le_of_ble_eq_true rfl, Nat.le_of_ble_eq_true rfl⟩) ⟨xPc_bl, va_recv hK hPc (ci := 9) (q0 := 0) rfl rfl, xPc_at hPc hK hDc hE hS hAb⟩ rfl rfl hl.1 rfl (lv_room (Nat.le_of_ble_eq_true rfl)) dL_law_222 ⟨(by decide), (by decide)⟩) hS (fun q _ h => hFc q h) hFc (fun r_7 u_8 t H1 locs ht1 hvm hw hB hz1 hk1 hS => ?_)
      obtain ⟨hP1, hD1⟩ := hB
      rw [ht1] at hP1
      try dsimp only at hw
      obtain ⟨hP, hD⟩ := va_join (wr := [(ou, .inl (C 2, 1, .inr (.inl (u_3))))]) (w1 := [(mo, .inr (9, [.int (u_6.2 0 0), .int (u_6.2 1 0), .ref g2, .ref g3, .ref g4, .ref g5, .ref g6, .ref g7, .ref g8, .ref g9, .ref g10, .ref g11, .ref g12, .ref g13, .ref g14, .ref g15, .ref g16, .ref g17, .ref g18, .ref g19, .int (u_6.2 2 0), .int (u_6.2 3 0), .ref g22, .int (u_6.2 4 0), .ref g24, .int (u_6.2 5 0), .int (u_6.2 6 0), .int (u_6.2 7 0), .ref g28, .ref g29, .int (u_6.2 8 0), .int (u_6.2 9 0)]))]) hP hD [1] [0] rfl rfl (by decide) (by decide) hk1 hFc hP1 hD1
      generalize H1 = H at hP hS ⊢
      have hP : va_P D vwCl [(ou, .inl (C 2, 1, .inr (.inl (u_3)))), (mo, .inr (9, [.int (u_6.2 0 0), .int (u_6.2 1 0), .ref g2, .ref g3, .ref g4, .ref g5, .ref g6, .ref g7, .ref g8, .ref g9, .ref g10, .ref g11, .ref g12, .ref g13, .ref g14, .ref g15, .ref g16, .ref g17, .ref g18, .ref g19, .int (u_6.2 2 0), .int (u_6.2 3 0), .ref g22, .int (u_6.2 4 0), .ref g24, .int (u_6.2 5 0), .int (u_6.2 6 0), .int (u_6.2 7 0), .ref g28, .ref g29, .int (u_6.2 8 0), .int (u_6.2 9 0)]))] H := hP
      have hD : va_D A [(ou, .inl (C 2, 1, .inr (.inl (u_3)))), (mo, .inr (9, [.int (u_6.2 0 0), .int (u_6.2 1 0), .ref g2, .ref g3, .ref g4, .ref g5, .ref g6, .ref g7, .ref g8, .ref g9, .ref g10, .ref g11, .ref g12, .ref g13, .ref g14, .ref g15, .ref g16, .ref g17, .ref g18, .ref g19, .int (u_6.2 2 0), .int (u_6.2 3 0), .ref g22, .int (u_6.2 4 0), .ref g24, .int (u_6.2 5 0), .int (u_6.2 6 0), .int (u_6.2 7 0), .ref g28, .ref g29, .int (u_6.2 8 0), .int (u_6.2 9 0)]))] := hD
      have hq_222 := hw
      obtain rfl : r_7 = (0 : Int32) := hw.trans z3
      refine lv_iload hx hb dL_law_225 (lv_at hl 1 rfl) ?_
      refine lv_icmp_eq (tgt := 232) hx hb dL_law_227 (by decide) (fun c_227 => ?_) (fun c_227 => ?_)
      rotate_left
      · exact absurd c_227 (by decide)
      refine lv_iload hx hb dL_law_232 (lv_at hl 1 rfl) ?_
      refine lv_if_ne (tgt := 249) hx hb dL_law_234 (by decide) (fun c_234 => ?_) (fun c_234 => ?_)
      · exact absurd c_234 (by decide)
      refine lv_aload_n hx hb dL_law_237 rfl (lv_at hl 3 rfl) ?_
      refine lv_iconst (v := 0) hx hb dL_law_238 (by decide) ?_
      refine va_lald hx hb hK hP 0 2 rfl rfl (by unfold vp_in; decide) dL_law_239 ?_
      refine lv_iload hx hb dL_law_240 (lv_at hl 0 rfl) ?_
      refine lv_i2l hx hb dL_law_242 rfl ?_
      refine W.lcmp hx hb dL_law_243 ?_
      refine lv_topi (fun x_9 ex_9 => ?_)
      obtain rfl : x_9 = (0 : Int32) := ex_9.trans (x_cmp0 (x_atL y3))
      refine lv_if_eq (tgt := 249) hx hb dL_law_244 (by decide) (fun c_244 => ?_) (fun c_244 => ?_)
      rotate_left
      · exact absurd c_244 (by decide)
      refine lv_goto (tgt := 1732) hx hb dL_law_249 (by decide) ?_
      exact lc_end ⟨hl0, hx, hb, hr, hml, hown, ht, hX, hbl, hlocks, hK, hE, hA, hAs, hbA⟩ (by decide) (by decide) hS (lv_sub hl [2, 6] rfl)
    · skip
      exact absurd y1 z1
  · skip
    obtain rfl : r_2 = (1 : Int32) := y2
    refine lv_istore (lv' := [(5, .int 1), (4, .int 0), (3, .ref ou), (2, .ref mo), (1, .ref h0), (0, .ref b)]) hx hb dL_law_207 hl (by decide) rfl (fun ls hl => ?_)
    refine lv_aload_n hx hb dL_law_209 rfl (lv_at hl 3 rfl) ?_
    refine lv_aload_n hx hb dL_law_210 rfl (lv_at hl 5 rfl) ?_
    refine lv_iload hx hb dL_law_211 (lv_at hl 1 rfl) ?_
    refine lv_iconst (v := 1) hx hb dL_law_213 (by decide) ?_
    refine lv_iadd hx hb dL_law_214 ?_
    refine lv_topi (fun x_10 ex_10 => ?_)
    obtain rfl : x_10 = (1 : Int32) := ex_10.trans (by decide)
    refine va_sld hx hb hX hbl hbA hS (by unfold vp_in; decide) dL_law_215 ?_
    have hPc := hP.sub (ws' := [(mo, .inr (9, [.int 0, .int 0, .ref g2, .ref g3, .ref g4, .ref g5, .ref g6, .ref g7, .ref g8, .ref g9, .ref g10, .ref g11, .ref g12, .ref g13, .ref g14, .ref g15, .ref g16, .ref g17, .ref g18, .ref g19, .int 0, .int 0, .ref g22, .int 0, .ref g24, .int 0, .int 0, .int (-1), .ref g28, .ref g29, .int 0, .int 0])), (g2, .inl (C 0, 600, .inl e2)), (g3, .inl (C 0, 600, .inl e3)), (g9, .inl (C 1, 600, .inl e9)), (g10, .inl (C 0, 600, .inl e10)), (g11, .inl (C 0, 6000, .inl e11)), (g12, .inl (C 0, 6000, .inl e12)), (g13, .inl (C 0, 6000, .inl e13)), (g14, .inl (C 0, 6000, .inl e14)), (g15, .inl (C 0, 6000, .inl e15)), (g16, .inl (C 1, 6000, .inl e16)), (g17, .inl (C 1, 6000, .inl e17)), (g18, .inl (C 1, 6000, .inl e18)), (g19, .inl (C 1, 6000, .inl e19))]) [0, 1, 2, 3, 4, 5, 6, 7, 8, 9, 10, 11, 12, 13] rfl
    have hDc := hD.sub (ws' := [(mo, .inr (9, [.int 0, .int 0, .ref g2, .ref g3, .ref g4, .ref g5, .ref g6, .ref g7, .ref g8, .ref g9, .ref g10, .ref g11, .ref g12, .ref g13, .ref g14, .ref g15, .ref g16, .ref g17, .ref g18, .ref g19, .int 0, .int 0, .ref g22, .int 0, .ref g24, .int 0, .int 0, .int (-1), .ref g28, .ref g29, .int 0, .int 0])), (g2, .inl (C 0, 600, .inl e2)), (g3, .inl (C 0, 600, .inl e3)), (g9, .inl (C 1, 600, .inl e9)), (g10, .inl (C 0, 600, .inl e10)), (g11, .inl (C 0, 6000, .inl e11)), (g12, .inl (C 0, 6000, .inl e12)), (g13, .inl (C 0, 6000, .inl e13)), (g14, .inl (C 0, 6000, .inl e14)), (g15, .inl (C 0, 6000, .inl e15)), (g16, .inl (C 1, 6000, .inl e16)), (g17, .inl (C 1, 6000, .inl e17)), (g18, .inl (C 1, 6000, .inl e18)), (g19, .inl (C 1, 6000, .inl e19))]) [0, 1, 2, 3, 4, 5, 6, 7, 8, 9, 10, 11, 12, 13] (by decide) rfl
    have hFc := va_free (wc := [(mo, .inr (9, [.int 0, .int 0, .ref g2, .ref g3, .ref g4, .ref g5, .ref g6, .ref g7, .ref g8, .ref g9, .ref g10, .ref g11, .ref g12, .ref g13, .ref g14, .ref g15, .ref g16, .ref g17, .ref g18, .ref g19, .int 0, .int 0, .ref g22, .int 0, .ref g24, .int 0, .int 0, .int (-1), .ref g28, .ref g29, .int 0, .int 0])), (g2, .inl (C 0, 600, .inl e2)), (g3, .inl (C 0, 600, .inl e3)), (g9, .inl (C 1, 600, .inl e9)), (g10, .inl (C 0, 600, .inl e10)), (g11, .inl (C 0, 6000, .inl e11)), (g12, .inl (C 0, 6000, .inl e12)), (g13, .inl (C 0, 6000, .inl e13)), (g14, .inl (C 0, 6000, .inl e14)), (g15, .inl (C 0, 6000, .inl e15)), (g16, .inl (C 1, 6000, .inl e16)), (g17, .inl (C 1, 6000, .inl e17)), (g18, .inl (C 1, 6000, .inl e18)), (g19, .inl (C 1, 6000, .inl e19))]) hD hS hA [0, 1, 2, 3, 4, 5, 6, 7, 8, 9, 10, 11, 12, 13] rfl
    refine va_calli (vx_runVW (As := [.int (xs (Int32.toNatClampNeg 1))]) (rest := []) ⟨hx, hb, hml, hown, ht⟩ (k9p_array l D C s.heap.size H.size mo g2 g3 g4 g5 g6 g7 g8 g9 g10 g11 g12 g13 g14 g15 g16 g17 g18 g19 g22 g24 g28 g29 e2 e3 e9 e10 e11 e12 e13 e14 e15 e16 e17 e18 e19 ((xs (Int32.toNatClampNeg 1)))) (vx_cwVW 1 ht (xg_V m_567 m_568 m_569 m_391 m_223) rfl rfl rfl (by decide +kernel) ⟨Nat.le_of_ble_eq_true rfl, Nat.le_of_ble_eq_true rfl⟩) ⟨xPc_bl, va_recv hK hPc (ci := 9) (q0 := 0) rfl rfl, xPc_at hPc hK hDc hE hS hAb⟩ rfl rfl hl.1 rfl (lv_room (Nat.le_of_ble_eq_true rfl)) dL_law_216 ⟨(by decide), (by decide)⟩) hS (fun q _ h => hFc q h) hFc (fun r_11 u_12 t H1 locs ht1 hvm hw hB hz1 hk1 hS => ?_)
    obtain ⟨hP1, hD1⟩ := hB
    rw [ht1] at hP1
    try dsimp only at hw
    obtain ⟨hP, hD⟩ := va_join (wr := [(ou, .inl (C 2, 1, .inr (.inl (u_3))))]) (w1 := [(mo, .inr (9, [.int (u_12.2 0 0), .int (u_12.2 1 0), .ref g2, .ref g3, .ref g4, .ref g5, .ref g6, .ref g7, .ref g8, .ref g9, .ref g10, .ref g11, .ref g12, .ref g13, .ref g14, .ref g15, .ref g16, .ref g17, .ref g18, .ref g19, .int (u_12.2 2 0), .int (u_12.2 3 0), .ref g22, .int (u_12.2 4 0), .ref g24, .int (u_12.2 5 0), .int (u_12.2 6 0), .int (u_12.2 7 0), .ref g28, .ref g29, .int (u_12.2 8 0), .int (u_12.2 9 0)]))]) hP hD [0, 1, 2, 3, 4, 5, 6, 7, 8, 9, 10, 11, 12, 13] [14] rfl rfl (by decide) (by decide) hk1 hFc hP1 hD1
    generalize H1 = H at hP hS ⊢
    have hP : va_P D vwCl [(ou, .inl (C 2, 1, .inr (.inl (u_3)))), (mo, .inr (9, [.int (u_12.2 0 0), .int (u_12.2 1 0), .ref g2, .ref g3, .ref g4, .ref g5, .ref g6, .ref g7, .ref g8, .ref g9, .ref g10, .ref g11, .ref g12, .ref g13, .ref g14, .ref g15, .ref g16, .ref g17, .ref g18, .ref g19, .int (u_12.2 2 0), .int (u_12.2 3 0), .ref g22, .int (u_12.2 4 0), .ref g24, .int (u_12.2 5 0), .int (u_12.2 6 0), .int (u_12.2 7 0), .ref g28, .ref g29, .int (u_12.2 8 0), .int (u_12.2 9 0)]))] H := hP
    have hD : va_D A [(ou, .inl (C 2, 1, .inr (.inl (u_3)))), (mo, .inr (9, [.int (u_12.2 0 0), .int (u_12.2 1 0), .ref g2, .ref g3, .ref g4, .ref g5, .ref g6, .ref g7, .ref g8, .ref g9, .ref g10, .ref g11, .ref g12, .ref g13, .ref g14, .ref g15, .ref g16, .ref g17, .ref g18, .ref g19, .int (u_12.2 2 0), .int (u_12.2 3 0), .ref g22, .int (u_12.2 4 0), .ref g24, .int (u_12.2 5 0), .int (u_12.2 6 0), .int (u_12.2 7 0), .ref g28, .ref g29, .int (u_12.2 8 0), .int (u_12.2 9 0)]))] := hD
    have hq_216 := hw
    rcases hq_216 with ⟨z1, z2, z3⟩ | ⟨z1, z3⟩
    · skip
      exact absurd z1 y1
    · skip
      refine lv_istore (lv' := [(6, .int r_11), (5, .int 1), (4, .int 0), (3, .ref ou), (2, .ref mo), (1, .ref h0), (0, .ref b)]) hx hb dL_law_219 hl (by decide) rfl (fun ls hl => ?_)
      refine lv_aload_n hx hb dL_law_221 rfl (lv_at hl 4 rfl) ?_
      have hPc := hP.sub (ws' := [(mo, .inr (9, [.int (u_12.2 0 0), .int (u_12.2 1 0), .ref g2, .ref g3, .ref g4, .ref g5, .ref g6, .ref g7, .ref g8, .ref g9, .ref g10, .ref g11, .ref g12, .ref g13, .ref g14, .ref g15, .ref g16, .ref g17, .ref g18, .ref g19, .int (u_12.2 2 0), .int (u_12.2 3 0), .ref g22, .int (u_12.2 4 0), .ref g24, .int (u_12.2 5 0), .int (u_12.2 6 0), .int (u_12.2 7 0), .ref g28, .ref g29, .int (u_12.2 8 0), .int (u_12.2 9 0)]))]) [1] rfl
      have hDc := hD.sub (ws' := [(mo, .inr (9, [.int (u_12.2 0 0), .int (u_12.2 1 0), .ref g2, .ref g3, .ref g4, .ref g5, .ref g6, .ref g7, .ref g8, .ref g9, .ref g10, .ref g11, .ref g12, .ref g13, .ref g14, .ref g15, .ref g16, .ref g17, .ref g18, .ref g19, .int (u_12.2 2 0), .int (u_12.2 3 0), .ref g22, .int (u_12.2 4 0), .ref g24, .int (u_12.2 5 0), .int (u_12.2 6 0), .int (u_12.2 7 0), .ref g28, .ref g29, .int (u_12.2 8 0), .int (u_12.2 9 0)]))]) [1] (by decide) rfl
      have hFc := va_free (wc := [(mo, .inr (9, [.int (u_12.2 0 0), .int (u_12.2 1 0), .ref g2, .ref g3, .ref g4, .ref g5, .ref g6, .ref g7, .ref g8, .ref g9, .ref g10, .ref g11, .ref g12, .ref g13, .ref g14, .ref g15, .ref g16, .ref g17, .ref g18, .ref g19, .int (u_12.2 2 0), .int (u_12.2 3 0), .ref g22, .int (u_12.2 4 0), .ref g24, .int (u_12.2 5 0), .int (u_12.2 6 0), .int (u_12.2 7 0), .ref g28, .ref g29, .int (u_12.2 8 0), .int (u_12.2 9 0)]))]) hD hS hA [1] rfl
      refine va_calli (va_runV (As := []) (rest := []) ⟨hx, hb, hml, hown, ht⟩ (k9_thrown l D C s.heap.size H.size mo g2 g3 g4 g5 g6 g7 g8 g9 g10 g11 g12 g13 g14 g15 g16 g17 g18 g19 g22 g24 g28 g29 (u_12.2 0 0) (u_12.2 1 0) (u_12.2 2 0) (u_12.2 3 0) (u_12.2 4 0) (u_12.2 5 0) (u_12.2 6 0) (u_12.2 7 0) (u_12.2 8 0) (u_12.2 9 0)) (cwV 0 ht (xg_V m_562 m_563 m_564 m_391 m_221) rfl rfl rfl (by decide +kernel) ⟨Nat.le_of_ble_eq_true rfl, Nat.le_of_ble_eq_true rfl⟩) ⟨xPc_bl, va_recv hK hPc (ci := 9) (q0 := 0) rfl rfl, xPc_at hPc hK hDc hE hS hAb⟩ rfl rfl hl.1 rfl (lv_room (Nat.le_of_ble_eq_true rfl)) dL_law_222 ⟨(by decide), (by decide)⟩) hS (fun q _ h => hFc q h) hFc (fun r_13 u_14 t H1 locs ht1 hvm hw hB hz1 hk1 hS => ?_)
      obtain ⟨hP1, hD1⟩ := hB
      rw [ht1] at hP1
      try dsimp only at hw
      obtain ⟨hP, hD⟩ := va_join (wr := [(ou, .inl (C 2, 1, .inr (.inl (u_3))))]) (w1 := [(mo, .inr (9, [.int (u_12.2 0 0), .int (u_12.2 1 0), .ref g2, .ref g3, .ref g4, .ref g5, .ref g6, .ref g7, .ref g8, .ref g9, .ref g10, .ref g11, .ref g12, .ref g13, .ref g14, .ref g15, .ref g16, .ref g17, .ref g18, .ref g19, .int (u_12.2 2 0), .int (u_12.2 3 0), .ref g22, .int (u_12.2 4 0), .ref g24, .int (u_12.2 5 0), .int (u_12.2 6 0), .int (u_12.2 7 0), .ref g28, .ref g29, .int (u_12.2 8 0), .int (u_12.2 9 0)]))]) hP hD [1] [0] rfl rfl (by decide) (by decide) hk1 hFc hP1 hD1
      generalize H1 = H at hP hS ⊢
      have hP : va_P D vwCl [(ou, .inl (C 2, 1, .inr (.inl (u_3)))), (mo, .inr (9, [.int (u_12.2 0 0), .int (u_12.2 1 0), .ref g2, .ref g3, .ref g4, .ref g5, .ref g6, .ref g7, .ref g8, .ref g9, .ref g10, .ref g11, .ref g12, .ref g13, .ref g14, .ref g15, .ref g16, .ref g17, .ref g18, .ref g19, .int (u_12.2 2 0), .int (u_12.2 3 0), .ref g22, .int (u_12.2 4 0), .ref g24, .int (u_12.2 5 0), .int (u_12.2 6 0), .int (u_12.2 7 0), .ref g28, .ref g29, .int (u_12.2 8 0), .int (u_12.2 9 0)]))] H := hP
      have hD : va_D A [(ou, .inl (C 2, 1, .inr (.inl (u_3)))), (mo, .inr (9, [.int (u_12.2 0 0), .int (u_12.2 1 0), .ref g2, .ref g3, .ref g4, .ref g5, .ref g6, .ref g7, .ref g8, .ref g9, .ref g10, .ref g11, .ref g12, .ref g13, .ref g14, .ref g15, .ref g16, .ref g17, .ref g18, .ref g19, .int (u_12.2 2 0), .int (u_12.2 3 0), .ref g22, .int (u_12.2 4 0), .ref g24, .int (u_12.2 5 0), .int (u_12.2 6 0), .int (u_12.2 7 0), .ref g28, .ref g29, .int (u_12.2 8 0), .int (u_12.2 9 0)]))] := hD
      have hq_222 := hw
      obtain rfl : r_13 = (1 : Int32) := hw.trans z3
      refine lv_iload hx hb dL_law_225 (lv_at hl 1 rfl) ?_
      refine lv_icmp_eq (tgt := 232) hx hb dL_law_227 (by decide) (fun c_227 => ?_) (fun c_227 => ?_)
      rotate_left
      · exact absurd c_227 (by decide)
      refine lv_iload hx hb dL_law_232 (lv_at hl 1 rfl) ?_
      refine lv_if_ne (tgt := 249) hx hb dL_law_234 (by decide) (fun c_234 => ?_) (fun c_234 => ?_)
      rotate_left
      · exact absurd c_234 (by decide)
      refine lv_goto (tgt := 1732) hx hb dL_law_249 (by decide) ?_
      exact lc_end ⟨hl0, hx, hb, hr, hml, hown, ht, hX, hbl, hlocks, hK, hE, hA, hAs, hbA⟩ (by decide) (by decide) hS (lv_sub hl [2, 6] rfl)
set_option maxHeartbeats 4000000 in
set_option maxRecDepth 100000 in
theorem lc_function {p : Program} {l : Launch} {e : Env} {s : State} {m : MethodId} {below : List Frame} {meth : Method} {c : Code} {b : Nat} {xs : Nat → Int32} {D : va_G} {C : Nat → ClassId} {A : Nat → Prop} {h0 s0 de kl tl cu hk ca kx ky tx ty a0 a1 a2 a3 a4 a5 a6 a7 a8 a9 a10 a11 ou mo g2 g3 g4 g5 g6 g7 g8 g9 g10 g11 g12 g13 g14 g15 g16 g17 g18 g19 g22 g24 g28 g29 : Nat} {e10 e2 e3 e6 e7 e8 e9 f0 f1 f2 f3 f4 f5 f6 : Nat → Int32} {fo : Nat → Int64} (h : lAt p l s m meth c b 6 xs D C A) {H : Heap} {locs : List Loc} {ls : Array Slot} (hP : va_P D vwCl [(h0, .inr (5, [.ref s0, .ref de, .ref kl, .ref tl, .ref cu, .ref hk, .ref ca, .int 0, .int 0, .int (-1), .int 0, .int 0])), (kl, .inr (2, [.ref kx, .ref ky, .int 0])), (tl, .inr (4, [.ref tx, .ref ty, .int 1])), (s0, .inr (3, [.ref a0, .ref a1, .ref a2, .ref a3, .ref a4, .ref a5, .ref a6, .int 0, .ref a7, .ref a8, .ref a9, .ref a10, .ref a11, .int 0])), (a0, .inl (C 0, 600, .inl f0)), (a1, .inl (C 0, 600, .inl f1)), (a2, .inl (C 1, 600, .inl f2)), (a3, .inl (C 0, 600, .inl f3)), (a4, .inl (C 0, 600, .inl f4)), (a5, .inl (C 0, 600, .inl f5)), (a6, .inl (C 0, 600, .inl f6)), (ou, .inl (C 2, 1, .inr (.inl fo))), (mo, .inr (9, [.int 0, .int 0, .ref g2, .ref g3, .ref g4, .ref g5, .ref g6, .ref g7, .ref g8, .ref g9, .ref g10, .ref g11, .ref g12, .ref g13, .ref g14, .ref g15, .ref g16, .ref g17, .ref g18, .ref g19, .int 0, .int 0, .ref g22, .int 0, .ref g24, .int 0, .int 0, .int (-1), .ref g28, .ref g29, .int 0, .int 0])), (g2, .inl (C 0, 600, .inl e2)), (g3, .inl (C 0, 600, .inl e3)), (g9, .inl (C 1, 600, .inl e9)), (g10, .inl (C 0, 600, .inl e10)), (g6, .inl (C 0, 600, .inl e6)), (g7, .inl (C 0, 600, .inl e7)), (g8, .inl (C 0, 600, .inl e8))] H) (hD : va_D A [(h0, .inr (5, [.ref s0, .ref de, .ref kl, .ref tl, .ref cu, .ref hk, .ref ca, .int 0, .int 0, .int (-1), .int 0, .int 0])), (kl, .inr (2, [.ref kx, .ref ky, .int 0])), (tl, .inr (4, [.ref tx, .ref ty, .int 1])), (s0, .inr (3, [.ref a0, .ref a1, .ref a2, .ref a3, .ref a4, .ref a5, .ref a6, .int 0, .ref a7, .ref a8, .ref a9, .ref a10, .ref a11, .int 0])), (a0, .inl (C 0, 600, .inl f0)), (a1, .inl (C 0, 600, .inl f1)), (a2, .inl (C 1, 600, .inl f2)), (a3, .inl (C 0, 600, .inl f3)), (a4, .inl (C 0, 600, .inl f4)), (a5, .inl (C 0, 600, .inl f5)), (a6, .inl (C 0, 600, .inl f6)), (ou, .inl (C 2, 1, .inr (.inl fo))), (mo, .inr (9, [.int 0, .int 0, .ref g2, .ref g3, .ref g4, .ref g5, .ref g6, .ref g7, .ref g8, .ref g9, .ref g10, .ref g11, .ref g12, .ref g13, .ref g14, .ref g15, .ref g16, .ref g17, .ref g18, .ref g19, .int 0, .int 0, .ref g22, .int 0, .ref g24, .int 0, .int 0, .int (-1), .ref g28, .ref g29, .int 0, .int 0])), (g2, .inl (C 0, 600, .inl e2)), (g3, .inl (C 0, 600, .inl e3)), (g9, .inl (C 1, 600, .inl e9)), (g10, .inl (C 0, 600, .inl e10)), (g6, .inl (C 0, 600, .inl e6)), (g7, .inl (C 0, 600, .inl e7)), (g8, .inl (C 0, 600, .inl e8))]) (hS : va_S A s.heap H locs) (hl : lv_has ls 7 [(4, .int 0), (3, .ref ou), (2, .ref mo), (1, .ref h0), (0, .ref b)]) : W p l e room_1 s m #[Value.ref b] below meth c H locs 254 111937 (lw_Z below #[Value.ref b] s) (F0 m 252 ls []) := by
  obtain ⟨hl0, hx, hb, hr, hml, hown, ht, hX, hbl, hlocks, hK, hE, hA, hAs, hbA⟩ := h
  have hAb := hAs
  refine lv_aload_n hx hb dL_law_252 rfl (lv_at hl 3 rfl) ?_
  refine lv_aload_n hx hb dL_law_253 rfl (lv_at hl 4 rfl) ?_
  refine lv_iload hx hb dL_law_254 (lv_at hl 0 rfl) ?_
  refine lv_iconst (v := 1) hx hb dL_law_256 (by decide) ?_
  refine lv_iadd hx hb dL_law_257 ?_
  refine lv_topi (fun x_1 ex_1 => ?_)
  obtain rfl : x_1 = (1 : Int32) := ex_1.trans (by decide)
  refine va_sld hx hb hX hbl hbA hS (by unfold vp_in; decide) dL_law_258 ?_
  refine lv_aload_n hx hb dL_law_259 rfl (lv_at hl 4 rfl) ?_
  refine lv_iload hx hb dL_law_260 (lv_at hl 0 rfl) ?_
  refine lv_iconst (v := 2) hx hb dL_law_262 (by decide) ?_
  refine lv_iadd hx hb dL_law_263 ?_
  refine lv_topi (fun x_2 ex_2 => ?_)
  obtain rfl : x_2 = (2 : Int32) := ex_2.trans (by decide)
  refine va_sld hx hb hX hbl hbA hS (by unfold vp_in; decide) dL_law_264 ?_
  refine lv_aload_n hx hb dL_law_265 rfl (lv_at hl 4 rfl) ?_
  refine lv_iload hx hb dL_law_266 (lv_at hl 0 rfl) ?_
  refine lv_iconst (v := 3) hx hb dL_law_268 (by decide) ?_
  refine lv_iadd hx hb dL_law_269 ?_
  refine lv_topi (fun x_3 ex_3 => ?_)
  obtain rfl : x_3 = (3 : Int32) := ex_3.trans (by decide)
  refine va_sld hx hb hX hbl hbA hS (by unfold vp_in; decide) dL_law_270 ?_
  refine lv_aload_n hx hb dL_law_271 rfl (lv_at hl 1 rfl) ?_
  have hPc := hP.sub (ws' := [(h0, .inr (5, [.ref s0, .ref de, .ref kl, .ref tl, .ref cu, .ref hk, .ref ca, .int 0, .int 0, .int (-1), .int 0, .int 0])), (kl, .inr (2, [.ref kx, .ref ky, .int 0])), (tl, .inr (4, [.ref tx, .ref ty, .int 1])), (s0, .inr (3, [.ref a0, .ref a1, .ref a2, .ref a3, .ref a4, .ref a5, .ref a6, .int 0, .ref a7, .ref a8, .ref a9, .ref a10, .ref a11, .int 0])), (a0, .inl (C 0, 600, .inl f0)), (a1, .inl (C 0, 600, .inl f1)), (a2, .inl (C 1, 600, .inl f2)), (a3, .inl (C 0, 600, .inl f3)), (a4, .inl (C 0, 600, .inl f4)), (a5, .inl (C 0, 600, .inl f5)), (a6, .inl (C 0, 600, .inl f6)), (ou, .inl (C 2, 1, .inr (.inl fo)))]) [0, 1, 2, 3, 4, 5, 6, 7, 8, 9, 10, 11] rfl
  have hDc := hD.sub (ws' := [(h0, .inr (5, [.ref s0, .ref de, .ref kl, .ref tl, .ref cu, .ref hk, .ref ca, .int 0, .int 0, .int (-1), .int 0, .int 0])), (kl, .inr (2, [.ref kx, .ref ky, .int 0])), (tl, .inr (4, [.ref tx, .ref ty, .int 1])), (s0, .inr (3, [.ref a0, .ref a1, .ref a2, .ref a3, .ref a4, .ref a5, .ref a6, .int 0, .ref a7, .ref a8, .ref a9, .ref a10, .ref a11, .int 0])), (a0, .inl (C 0, 600, .inl f0)), (a1, .inl (C 0, 600, .inl f1)), (a2, .inl (C 1, 600, .inl f2)), (a3, .inl (C 0, 600, .inl f3)), (a4, .inl (C 0, 600, .inl f4)), (a5, .inl (C 0, 600, .inl f5)), (a6, .inl (C 0, 600, .inl f6)), (ou, .inl (C 2, 1, .inr (.inl fo)))]) [0, 1, 2, 3, 4, 5, 6, 7, 8, 9, 10, 11] (by decide) rfl
  have hFc := va_free (wc := [(h0, .inr (5, [.ref s0, .ref de, .ref kl, .ref tl, .ref cu, .ref hk, .ref ca, .int 0, .int 0, .int (-1), .int 0, .int 0])), (kl, .inr (2, [.ref kx, .ref ky, .int 0])), (tl, .inr (4, [.ref tx, .ref ty, .int 1])), (s0, .inr (3, [.ref a0, .ref a1, .ref a2, .ref a3, .ref a4, .ref a5, .ref a6, .int 0, .ref a7, .ref a8, .ref a9, .ref a10, .ref a11, .int 0])), (a0, .inl (C 0, 600, .inl f0)), (a1, .inl (C 0, 600, .inl f1)), (a2, .inl (C 1, 600, .inl f2)), (a3, .inl (C 0, 600, .inl f3)), (a4, .inl (C 0, 600, .inl f4)), (a5, .inl (C 0, 600, .inl f5)), (a6, .inl (C 0, 600, .inl f6)), (ou, .inl (C 2, 1, .inr (.inl fo)))]) hD hS hA [0, 1, 2, 3, 4, 5, 6, 7, 8, 9, 10, 11] rfl
  refine va_calli (vx_runSW (As := [.ref h0, .int (xs (Int32.toNatClampNeg 1)), .int (xs (Int32.toNatClampNeg 2)), .int (xs (Int32.toNatClampNeg 3)), .ref ou]) (rest := []) ⟨hx, hb, hml, hown, ht⟩ (kL_function l hl0 D C s.heap.size H.size h0 s0 de kl tl cu hk ca kx ky tx ty a0 a1 a2 a3 a4 a5 a6 a7 a8 a9 a10 a11 f0 f1 f2 f3 f4 f5 f6 ((xs (Int32.toNatClampNeg 1))) ((xs (Int32.toNatClampNeg 2))) ((xs (Int32.toNatClampNeg 3))) ou fo) (vx_cwSW 5 ht (xg_T m_570 m_571 m_558 m_471) rfl rfl rfl (by decide +kernel) ⟨Nat.le_of_ble_eq_true rfl, Nat.le_of_ble_eq_true rfl⟩) ⟨xPc_bl, xPc_at hPc hK hDc hE hS hAb⟩ rfl rfl hl.1 rfl (lv_room (Nat.le_of_ble_eq_true rfl)) dL_law_272 ⟨(by decide), (by decide)⟩) hS (fun q _ h => hFc q h) hFc (fun r_4 u_5 t H1 locs ht1 hvm hw hB hz1 hk1 hS => ?_)
  obtain ⟨hP1, hD1⟩ := hB
  rw [ht1] at hP1
  try dsimp only at hw
  obtain ⟨hP, hD⟩ := va_join (wr := [(mo, .inr (9, [.int 0, .int 0, .ref g2, .ref g3, .ref g4, .ref g5, .ref g6, .ref g7, .ref g8, .ref g9, .ref g10, .ref g11, .ref g12, .ref g13, .ref g14, .ref g15, .ref g16, .ref g17, .ref g18, .ref g19, .int 0, .int 0, .ref g22, .int 0, .ref g24, .int 0, .int 0, .int (-1), .ref g28, .ref g29, .int 0, .int 0])), (g2, .inl (C 0, 600, .inl e2)), (g3, .inl (C 0, 600, .inl e3)), (g9, .inl (C 1, 600, .inl e9)), (g10, .inl (C 0, 600, .inl e10)), (g6, .inl (C 0, 600, .inl e6)), (g7, .inl (C 0, 600, .inl e7)), (g8, .inl (C 0, 600, .inl e8))]) (w1 := [(ou, .inl (C 2, 1, .inr (.inl (u_5))))]) hP hD [0, 1, 2, 3, 4, 5, 6, 7, 8, 9, 10, 11] [12, 13, 14, 15, 16, 17, 18, 19] rfl rfl (by decide) (by decide) hk1 hFc hP1 hD1
  generalize H1 = H at hP hS ⊢
  have hP : va_P D vwCl [(mo, .inr (9, [.int 0, .int 0, .ref g2, .ref g3, .ref g4, .ref g5, .ref g6, .ref g7, .ref g8, .ref g9, .ref g10, .ref g11, .ref g12, .ref g13, .ref g14, .ref g15, .ref g16, .ref g17, .ref g18, .ref g19, .int 0, .int 0, .ref g22, .int 0, .ref g24, .int 0, .int 0, .int (-1), .ref g28, .ref g29, .int 0, .int 0])), (g2, .inl (C 0, 600, .inl e2)), (g3, .inl (C 0, 600, .inl e3)), (g9, .inl (C 1, 600, .inl e9)), (g10, .inl (C 0, 600, .inl e10)), (g6, .inl (C 0, 600, .inl e6)), (g7, .inl (C 0, 600, .inl e7)), (g8, .inl (C 0, 600, .inl e8)), (ou, .inl (C 2, 1, .inr (.inl (u_5))))] H := hP
  have hD : va_D A [(mo, .inr (9, [.int 0, .int 0, .ref g2, .ref g3, .ref g4, .ref g5, .ref g6, .ref g7, .ref g8, .ref g9, .ref g10, .ref g11, .ref g12, .ref g13, .ref g14, .ref g15, .ref g16, .ref g17, .ref g18, .ref g19, .int 0, .int 0, .ref g22, .int 0, .ref g24, .int 0, .int 0, .int (-1), .ref g28, .ref g29, .int 0, .int 0])), (g2, .inl (C 0, 600, .inl e2)), (g3, .inl (C 0, 600, .inl e3)), (g9, .inl (C 1, 600, .inl e9)), (g10, .inl (C 0, 600, .inl e10)), (g6, .inl (C 0, 600, .inl e6)), (g7, .inl (C 0, 600, .inl e7)), (g8, .inl (C 0, 600, .inl e8)), (ou, .inl (C 2, 1, .inr (.inl (u_5))))] := hD
  have hq_272 := hw
  refine W.widen (k := 257) (n := 111955) (by decide) (by decide) ?_
  rcases hq_272 with ⟨y1, y2, y3⟩ | ⟨y1, y2⟩
  · skip
    obtain rfl : r_4 = (0 : Int32) := y2
    refine lv_istore (lv' := [(5, .int 0), (4, .int 0), (3, .ref ou), (2, .ref mo), (1, .ref h0), (0, .ref b)]) hx hb dL_law_275 hl (by decide) rfl (fun ls hl => ?_)
    refine lv_aload_n hx hb dL_law_277 rfl (lv_at hl 3 rfl) ?_
    refine lv_aload_n hx hb dL_law_278 rfl (lv_at hl 5 rfl) ?_
    refine lv_iload hx hb dL_law_279 (lv_at hl 1 rfl) ?_
    refine lv_iconst (v := 1) hx hb dL_law_281 (by decide) ?_
    refine lv_iadd hx hb dL_law_282 ?_
    refine lv_topi (fun x_6 ex_6 => ?_)
    obtain rfl : x_6 = (1 : Int32) := ex_6.trans (by decide)
    refine va_sld hx hb hX hbl hbA hS (by unfold vp_in; decide) dL_law_283 ?_
    refine lv_aload_n hx hb dL_law_284 rfl (lv_at hl 5 rfl) ?_
    refine lv_iload hx hb dL_law_285 (lv_at hl 1 rfl) ?_
    refine lv_iconst (v := 2) hx hb dL_law_287 (by decide) ?_
    refine lv_iadd hx hb dL_law_288 ?_
    refine lv_topi (fun x_7 ex_7 => ?_)
    obtain rfl : x_7 = (2 : Int32) := ex_7.trans (by decide)
    refine va_sld hx hb hX hbl hbA hS (by unfold vp_in; decide) dL_law_289 ?_
    refine lv_aload_n hx hb dL_law_290 rfl (lv_at hl 5 rfl) ?_
    refine lv_iload hx hb dL_law_291 (lv_at hl 1 rfl) ?_
    refine lv_iconst (v := 3) hx hb dL_law_293 (by decide) ?_
    refine lv_iadd hx hb dL_law_294 ?_
    refine lv_topi (fun x_8 ex_8 => ?_)
    obtain rfl : x_8 = (3 : Int32) := ex_8.trans (by decide)
    refine va_sld hx hb hX hbl hbA hS (by unfold vp_in; decide) dL_law_295 ?_
    have hPc := hP.sub (ws' := [(mo, .inr (9, [.int 0, .int 0, .ref g2, .ref g3, .ref g4, .ref g5, .ref g6, .ref g7, .ref g8, .ref g9, .ref g10, .ref g11, .ref g12, .ref g13, .ref g14, .ref g15, .ref g16, .ref g17, .ref g18, .ref g19, .int 0, .int 0, .ref g22, .int 0, .ref g24, .int 0, .int 0, .int (-1), .ref g28, .ref g29, .int 0, .int 0])), (g2, .inl (C 0, 600, .inl e2)), (g3, .inl (C 0, 600, .inl e3)), (g9, .inl (C 1, 600, .inl e9)), (g10, .inl (C 0, 600, .inl e10)), (g6, .inl (C 0, 600, .inl e6)), (g7, .inl (C 0, 600, .inl e7)), (g8, .inl (C 0, 600, .inl e8))]) [0, 1, 2, 3, 4, 5, 6, 7] rfl
    have hDc := hD.sub (ws' := [(mo, .inr (9, [.int 0, .int 0, .ref g2, .ref g3, .ref g4, .ref g5, .ref g6, .ref g7, .ref g8, .ref g9, .ref g10, .ref g11, .ref g12, .ref g13, .ref g14, .ref g15, .ref g16, .ref g17, .ref g18, .ref g19, .int 0, .int 0, .ref g22, .int 0, .ref g24, .int 0, .int 0, .int (-1), .ref g28, .ref g29, .int 0, .int 0])), (g2, .inl (C 0, 600, .inl e2)), (g3, .inl (C 0, 600, .inl e3)), (g9, .inl (C 1, 600, .inl e9)), (g10, .inl (C 0, 600, .inl e10)), (g6, .inl (C 0, 600, .inl e6)), (g7, .inl (C 0, 600, .inl e7)), (g8, .inl (C 0, 600, .inl e8))]) [0, 1, 2, 3, 4, 5, 6, 7] (by decide) rfl
    have hFc := va_free (wc := [(mo, .inr (9, [.int 0, .int 0, .ref g2, .ref g3, .ref g4, .ref g5, .ref g6, .ref g7, .ref g8, .ref g9, .ref g10, .ref g11, .ref g12, .ref g13, .ref g14, .ref g15, .ref g16, .ref g17, .ref g18, .ref g19, .int 0, .int 0, .ref g22, .int 0, .ref g24, .int 0, .int 0, .int (-1), .ref g28, .ref g29, .int 0, .int 0])), (g2, .inl (C 0, 600, .inl e2)), (g3, .inl (C 0, 600, .inl e3)), (g9, .inl (C 1, 600, .inl e9)), (g10, .inl (C 0, 600, .inl e10)), (g6, .inl (C 0, 600, .inl e6)), (g7, .inl (C 0, 600, .inl e7)), (g8, .inl (C 0, 600, .inl e8))]) hD hS hA [0, 1, 2, 3, 4, 5, 6, 7] rfl
    refine va_calli (va_runV (As := [.int (xs (Int32.toNatClampNeg 1)), .int (xs (Int32.toNatClampNeg 2)), .int (xs (Int32.toNatClampNeg 3))]) (rest := []) ⟨hx, hb, hml, hown, ht⟩ (k9p_function l D C s.heap.size H.size mo g2 g3 g4 g5 g6 g7 g8 g9 g10 g11 g12 g13 g14 g15 g16 g17 g18 g19 g22 g24 g28 g29 e2 e3 e9 e10 e6 e7 e8 ((xs (Int32.toNatClampNeg 1))) ((xs (Int32.toNatClampNeg 2))) ((xs (Int32.toNatClampNeg 3)))) (cwV 3 ht (xg_V m_572 m_573 m_574 m_391 m_224) rfl rfl rfl (by decide +kernel) ⟨Nat.le_of_ble_eq_true rfl, Nat.le_of_ble_eq_true rfl⟩) ⟨xPc_bl, va_recv hK hPc (ci := 9) (q0 := 0) rfl rfl, xPc_at hPc hK hDc hE hS hAb⟩ rfl rfl hl.1 rfl (lv_room (Nat.le_of_ble_eq_true rfl)) dL_law_296 ⟨(by decide), (by decide)⟩) hS (fun q _ h => hFc q h) hFc (fun r_9 u_10 t H1 locs ht1 hvm hw hB hz1 hk1 hS => ?_)
    obtain ⟨hP1, hD1⟩ := hB
    rw [ht1] at hP1
    try dsimp only at hw
    obtain ⟨hP, hD⟩ := va_join (wr := [(ou, .inl (C 2, 1, .inr (.inl (u_5))))]) (w1 := [(mo, .inr (9, [.int (u_10.2 0 0), .int (u_10.2 1 0), .ref g2, .ref g3, .ref g4, .ref g5, .ref g6, .ref g7, .ref g8, .ref g9, .ref g10, .ref g11, .ref g12, .ref g13, .ref g14, .ref g15, .ref g16, .ref g17, .ref g18, .ref g19, .int (u_10.2 2 0), .int (u_10.2 3 0), .ref g22, .int (u_10.2 4 0), .ref g24, .int (u_10.2 5 0), .int (u_10.2 6 0), .int (u_10.2 7 0), .ref g28, .ref g29, .int (u_10.2 8 0), .int (u_10.2 9 0)]))]) hP hD [0, 1, 2, 3, 4, 5, 6, 7] [8] rfl rfl (by decide) (by decide) hk1 hFc hP1 hD1
    generalize H1 = H at hP hS ⊢
    have hP : va_P D vwCl [(ou, .inl (C 2, 1, .inr (.inl (u_5)))), (mo, .inr (9, [.int (u_10.2 0 0), .int (u_10.2 1 0), .ref g2, .ref g3, .ref g4, .ref g5, .ref g6, .ref g7, .ref g8, .ref g9, .ref g10, .ref g11, .ref g12, .ref g13, .ref g14, .ref g15, .ref g16, .ref g17, .ref g18, .ref g19, .int (u_10.2 2 0), .int (u_10.2 3 0), .ref g22, .int (u_10.2 4 0), .ref g24, .int (u_10.2 5 0), .int (u_10.2 6 0), .int (u_10.2 7 0), .ref g28, .ref g29, .int (u_10.2 8 0), .int (u_10.2 9 0)]))] H := hP
    have hD : va_D A [(ou, .inl (C 2, 1, .inr (.inl (u_5)))), (mo, .inr (9, [.int (u_10.2 0 0), .int (u_10.2 1 0), .ref g2, .ref g3, .ref g4, .ref g5, .ref g6, .ref g7, .ref g8, .ref g9, .ref g10, .ref g11, .ref g12, .ref g13, .ref g14, .ref g15, .ref g16, .ref g17, .ref g18, .ref g19, .int (u_10.2 2 0), .int (u_10.2 3 0), .ref g22, .int (u_10.2 4 0), .ref g24, .int (u_10.2 5 0), .int (u_10.2 6 0), .int (u_10.2 7 0), .ref g28, .ref g29, .int (u_10.2 8 0), .int (u_10.2 9 0)]))] := hD
    have hq_296 := hw
    rcases hq_296 with ⟨z1, z2, z3⟩ | ⟨z1, z3⟩
    · skip
      obtain rfl : r_9 = (-2 : Int32) := z2
      refine lv_istore (lv' := [(6, .int (-2)), (5, .int 0), (4, .int 0), (3, .ref ou), (2, .ref mo), (1, .ref h0), (0, .ref b)]) hx hb dL_law_299 hl (by decide) rfl (fun ls hl => ?_)
      refine lv_aload_n hx hb dL_law_301 rfl (lv_at hl 4 rfl) ?_
      have hPc := hP.sub (ws' := [(mo, .inr (9, [.int (u_10.2 0 0), .int (u_10.2 1 0), .ref g2, .ref g3, .ref g4, .ref g5, .ref g6, .ref g7, .ref g8, .ref g9, .ref g10, .ref g11, .ref g12, .ref g13, .ref g14, .ref g15, .ref g16, .ref g17, .ref g18, .ref g19, .int (u_10.2 2 0), .int (u_10.2 3 0), .ref g22, .int (u_10.2 4 0), .ref g24, .int (u_10.2 5 0), .int (u_10.2 6 0), .int (u_10.2 7 0), .ref g28, .ref g29, .int (u_10.2 8 0), .int (u_10.2 9 0)]))]) [1] rfl
      have hDc := hD.sub (ws' := [(mo, .inr (9, [.int (u_10.2 0 0), .int (u_10.2 1 0), .ref g2, .ref g3, .ref g4, .ref g5, .ref g6, .ref g7, .ref g8, .ref g9, .ref g10, .ref g11, .ref g12, .ref g13, .ref g14, .ref g15, .ref g16, .ref g17, .ref g18, .ref g19, .int (u_10.2 2 0), .int (u_10.2 3 0), .ref g22, .int (u_10.2 4 0), .ref g24, .int (u_10.2 5 0), .int (u_10.2 6 0), .int (u_10.2 7 0), .ref g28, .ref g29, .int (u_10.2 8 0), .int (u_10.2 9 0)]))]) [1] (by decide) rfl
      have hFc := va_free (wc := [(mo, .inr (9, [.int (u_10.2 0 0), .int (u_10.2 1 0), .ref g2, .ref g3, .ref g4, .ref g5, .ref g6, .ref g7, .ref g8, .ref g9, .ref g10, .ref g11, .ref g12, .ref g13, .ref g14, .ref g15, .ref g16, .ref g17, .ref g18, .ref g19, .int (u_10.2 2 0), .int (u_10.2 3 0), .ref g22, .int (u_10.2 4 0), .ref g24, .int (u_10.2 5 0), .int (u_10.2 6 0), .int (u_10.2 7 0), .ref g28, .ref g29, .int (u_10.2 8 0), .int (u_10.2 9 0)]))]) hD hS hA [1] rfl
      refine va_calli (va_runV (As := []) (rest := []) ⟨hx, hb, hml, hown, ht⟩ (k9_thrown l D C s.heap.size H.size mo g2 g3 g4 g5 g6 g7 g8 g9 g10 g11 g12 g13 g14 g15 g16 g17 g18 g19 g22 g24 g28 g29 (u_10.2 0 0) (u_10.2 1 0) (u_10.2 2 0) (u_10.2 3 0) (u_10.2 4 0) (u_10.2 5 0) (u_10.2 6 0) (u_10.2 7 0) (u_10.2 8 0) (u_10.2 9 0)) (cwV 0 ht (xg_V m_562 m_563 m_564 m_391 m_221) rfl rfl rfl (by decide +kernel) ⟨Nat.le_of_ble_eq_true rfl, Nat.le_of_ble_eq_true rfl⟩) ⟨xPc_bl, va_recv hK hPc (ci := 9) (q0 := 0) rfl rfl, xPc_at hPc hK hDc hE hS hAb⟩ rfl rfl hl.1 rfl (lv_room (Nat.le_of_ble_eq_true rfl)) dL_law_302 ⟨(by decide), (by decide)⟩) hS (fun q _ h => hFc q h) hFc (fun r_11 u_12 t H1 locs ht1 hvm hw hB hz1 hk1 hS => ?_)
      obtain ⟨hP1, hD1⟩ := hB
      rw [ht1] at hP1
      try dsimp only at hw
      obtain ⟨hP, hD⟩ := va_join (wr := [(ou, .inl (C 2, 1, .inr (.inl (u_5))))]) (w1 := [(mo, .inr (9, [.int (u_10.2 0 0), .int (u_10.2 1 0), .ref g2, .ref g3, .ref g4, .ref g5, .ref g6, .ref g7, .ref g8, .ref g9, .ref g10, .ref g11, .ref g12, .ref g13, .ref g14, .ref g15, .ref g16, .ref g17, .ref g18, .ref g19, .int (u_10.2 2 0), .int (u_10.2 3 0), .ref g22, .int (u_10.2 4 0), .ref g24, .int (u_10.2 5 0), .int (u_10.2 6 0), .int (u_10.2 7 0), .ref g28, .ref g29, .int (u_10.2 8 0), .int (u_10.2 9 0)]))]) hP hD [1] [0] rfl rfl (by decide) (by decide) hk1 hFc hP1 hD1
      generalize H1 = H at hP hS ⊢
      have hP : va_P D vwCl [(ou, .inl (C 2, 1, .inr (.inl (u_5)))), (mo, .inr (9, [.int (u_10.2 0 0), .int (u_10.2 1 0), .ref g2, .ref g3, .ref g4, .ref g5, .ref g6, .ref g7, .ref g8, .ref g9, .ref g10, .ref g11, .ref g12, .ref g13, .ref g14, .ref g15, .ref g16, .ref g17, .ref g18, .ref g19, .int (u_10.2 2 0), .int (u_10.2 3 0), .ref g22, .int (u_10.2 4 0), .ref g24, .int (u_10.2 5 0), .int (u_10.2 6 0), .int (u_10.2 7 0), .ref g28, .ref g29, .int (u_10.2 8 0), .int (u_10.2 9 0)]))] H := hP
      have hD : va_D A [(ou, .inl (C 2, 1, .inr (.inl (u_5)))), (mo, .inr (9, [.int (u_10.2 0 0), .int (u_10.2 1 0), .ref g2, .ref g3, .ref g4, .ref g5, .ref g6, .ref g7, .ref g8, .ref g9, .ref g10, .ref g11, .ref g12, .ref g13, .ref g14, .ref g15, .ref g16, .ref g17, .ref g18, .ref g19, .int (u_10.2 2 0), .int (u_10.2 3 0), .ref g22, .int (u_10.2 4 0), .ref g24, .int (u_10.2 5 0), .int (u_10.2 6 0), .int (u_10.2 7 0), .ref g28, .ref g29, .int (u_10.2 8 0), .int (u_10.2 9 0)]))] := hD
      have hq_302 := hw
      obtain rfl : r_11 = (0 : Int32) := hw.trans z3
      refine lv_iload hx hb dL_law_305 (lv_at hl 1 rfl) ?_
      refine lv_icmp_eq (tgt := 312) hx hb dL_law_307 (by decide) (fun c_307 => ?_) (fun c_307 => ?_)
      rotate_left
      · exact absurd c_307 (by decide)
      refine lv_iload hx hb dL_law_312 (lv_at hl 1 rfl) ?_
      refine lv_if_ne (tgt := 329) hx hb dL_law_314 (by decide) (fun c_314 => ?_) (fun c_314 => ?_)
      · exact absurd c_314 (by decide)
      refine lv_aload_n hx hb dL_law_317 rfl (lv_at hl 3 rfl) ?_
      refine lv_iconst (v := 0) hx hb dL_law_318 (by decide) ?_
      refine va_lald hx hb hK hP 0 2 rfl rfl (by unfold vp_in; decide) dL_law_319 ?_
      refine lv_iload hx hb dL_law_320 (lv_at hl 0 rfl) ?_
      refine lv_i2l hx hb dL_law_322 rfl ?_
      refine W.lcmp hx hb dL_law_323 ?_
      refine lv_topi (fun x_13 ex_13 => ?_)
      obtain rfl : x_13 = (0 : Int32) := ex_13.trans (x_cmp0 (x_atL y3))
      refine lv_if_eq (tgt := 329) hx hb dL_law_324 (by decide) (fun c_324 => ?_) (fun c_324 => ?_)
      rotate_left
      · exact absurd c_324 (by decide)
      refine lv_goto (tgt := 1732) hx hb dL_law_329 (by decide) ?_
      exact lc_end ⟨hl0, hx, hb, hr, hml, hown, ht, hX, hbl, hlocks, hK, hE, hA, hAs, hbA⟩ (by decide) (by decide) hS (lv_sub hl [2, 6] rfl)
    · skip
      exact absurd y1 z1
  · skip
    obtain rfl : r_4 = (1 : Int32) := y2
    refine lv_istore (lv' := [(5, .int 1), (4, .int 0), (3, .ref ou), (2, .ref mo), (1, .ref h0), (0, .ref b)]) hx hb dL_law_275 hl (by decide) rfl (fun ls hl => ?_)
    refine lv_aload_n hx hb dL_law_277 rfl (lv_at hl 3 rfl) ?_
    refine lv_aload_n hx hb dL_law_278 rfl (lv_at hl 5 rfl) ?_
    refine lv_iload hx hb dL_law_279 (lv_at hl 1 rfl) ?_
    refine lv_iconst (v := 1) hx hb dL_law_281 (by decide) ?_
    refine lv_iadd hx hb dL_law_282 ?_
    refine lv_topi (fun x_14 ex_14 => ?_)
    obtain rfl : x_14 = (1 : Int32) := ex_14.trans (by decide)
    refine va_sld hx hb hX hbl hbA hS (by unfold vp_in; decide) dL_law_283 ?_
    refine lv_aload_n hx hb dL_law_284 rfl (lv_at hl 5 rfl) ?_
    refine lv_iload hx hb dL_law_285 (lv_at hl 1 rfl) ?_
    refine lv_iconst (v := 2) hx hb dL_law_287 (by decide) ?_
    refine lv_iadd hx hb dL_law_288 ?_
    refine lv_topi (fun x_15 ex_15 => ?_)
    obtain rfl : x_15 = (2 : Int32) := ex_15.trans (by decide)
    refine va_sld hx hb hX hbl hbA hS (by unfold vp_in; decide) dL_law_289 ?_
    refine lv_aload_n hx hb dL_law_290 rfl (lv_at hl 5 rfl) ?_
    refine lv_iload hx hb dL_law_291 (lv_at hl 1 rfl) ?_
    refine lv_iconst (v := 3) hx hb dL_law_293 (by decide) ?_
    refine lv_iadd hx hb dL_law_294 ?_
    refine lv_topi (fun x_16 ex_16 => ?_)
    obtain rfl : x_16 = (3 : Int32) := ex_16.trans (by decide)
    refine va_sld hx hb hX hbl hbA hS (by unfold vp_in; decide) dL_law_295 ?_
    have hPc := hP.sub (ws' := [(mo, .inr (9, [.int 0, .int 0, .ref g2, .ref g3, .ref g4, .ref g5, .ref g6, .ref g7, .ref g8, .ref g9, .ref g10, .ref g11, .ref g12, .ref g13, .ref g14, .ref g15, .ref g16, .ref g17, .ref g18, .ref g19, .int 0, .int 0, .ref g22, .int 0, .ref g24, .int 0, .int 0, .int (-1), .ref g28, .ref g29, .int 0, .int 0])), (g2, .inl (C 0, 600, .inl e2)), (g3, .inl (C 0, 600, .inl e3)), (g9, .inl (C 1, 600, .inl e9)), (g10, .inl (C 0, 600, .inl e10)), (g6, .inl (C 0, 600, .inl e6)), (g7, .inl (C 0, 600, .inl e7)), (g8, .inl (C 0, 600, .inl e8))]) [0, 1, 2, 3, 4, 5, 6, 7] rfl
    have hDc := hD.sub (ws' := [(mo, .inr (9, [.int 0, .int 0, .ref g2, .ref g3, .ref g4, .ref g5, .ref g6, .ref g7, .ref g8, .ref g9, .ref g10, .ref g11, .ref g12, .ref g13, .ref g14, .ref g15, .ref g16, .ref g17, .ref g18, .ref g19, .int 0, .int 0, .ref g22, .int 0, .ref g24, .int 0, .int 0, .int (-1), .ref g28, .ref g29, .int 0, .int 0])), (g2, .inl (C 0, 600, .inl e2)), (g3, .inl (C 0, 600, .inl e3)), (g9, .inl (C 1, 600, .inl e9)), (g10, .inl (C 0, 600, .inl e10)), (g6, .inl (C 0, 600, .inl e6)), (g7, .inl (C 0, 600, .inl e7)), (g8, .inl (C 0, 600, .inl e8))]) [0, 1, 2, 3, 4, 5, 6, 7] (by decide) rfl
    have hFc := va_free (wc := [(mo, .inr (9, [.int 0, .int 0, .ref g2, .ref g3, .ref g4, .ref g5, .ref g6, .ref g7, .ref g8, .ref g9, .ref g10, .ref g11, .ref g12, .ref g13, .ref g14, .ref g15, .ref g16, .ref g17, .ref g18, .ref g19, .int 0, .int 0, .ref g22, .int 0, .ref g24, .int 0, .int 0, .int (-1), .ref g28, .ref g29, .int 0, .int 0])), (g2, .inl (C 0, 600, .inl e2)), (g3, .inl (C 0, 600, .inl e3)), (g9, .inl (C 1, 600, .inl e9)), (g10, .inl (C 0, 600, .inl e10)), (g6, .inl (C 0, 600, .inl e6)), (g7, .inl (C 0, 600, .inl e7)), (g8, .inl (C 0, 600, .inl e8))]) hD hS hA [0, 1, 2, 3, 4, 5, 6, 7] rfl
    refine va_calli (va_runV (As := [.int (xs (Int32.toNatClampNeg 1)), .int (xs (Int32.toNatClampNeg 2)), .int (xs (Int32.toNatClampNeg 3))]) (rest := []) ⟨hx, hb, hml, hown, ht⟩ (k9p_function l D C s.heap.size H.size mo g2 g3 g4 g5 g6 g7 g8 g9 g10 g11 g12 g13 g14 g15 g16 g17 g18 g19 g22 g24 g28 g29 e2 e3 e9 e10 e6 e7 e8 ((xs (Int32.toNatClampNeg 1))) ((xs (Int32.toNatClampNeg 2))) ((xs (Int32.toNatClampNeg 3)))) (cwV 3 ht (xg_V m_572 m_573 m_574 m_391 m_224) rfl rfl rfl (by decide +kernel) ⟨Nat.le_of_ble_eq_true rfl, Nat.le_of_ble_eq_true rfl⟩) ⟨xPc_bl, va_recv hK hPc (ci := 9) (q0 := 0) rfl rfl, xPc_at hPc hK hDc hE hS hAb⟩ rfl rfl hl.1 rfl (lv_room (Nat.le_of_ble_eq_true rfl)) dL_law_296 ⟨(by decide), (by decide)⟩) hS (fun q _ h => hFc q h) hFc (fun r_17 u_18 t H1 locs ht1 hvm hw hB hz1 hk1 hS => ?_)
    obtain ⟨hP1, hD1⟩ := hB
    rw [ht1] at hP1
    try dsimp only at hw
    obtain ⟨hP, hD⟩ := va_join (wr := [(ou, .inl (C 2, 1, .inr (.inl (u_5))))]) (w1 := [(mo, .inr (9, [.int (u_18.2 0 0), .int (u_18.2 1 0), .ref g2, .ref g3, .ref g4, .ref g5, .ref g6, .ref g7, .ref g8, .ref g9, .ref g10, .ref g11, .ref g12, .ref g13, .ref g14, .ref g15, .ref g16, .ref g17, .ref g18, .ref g19, .int (u_18.2 2 0), .int (u_18.2 3 0), .ref g22, .int (u_18.2 4 0), .ref g24, .int (u_18.2 5 0), .int (u_18.2 6 0), .int (u_18.2 7 0), .ref g28, .ref g29, .int (u_18.2 8 0), .int (u_18.2 9 0)]))]) hP hD [0, 1, 2, 3, 4, 5, 6, 7] [8] rfl rfl (by decide) (by decide) hk1 hFc hP1 hD1
    generalize H1 = H at hP hS ⊢
    have hP : va_P D vwCl [(ou, .inl (C 2, 1, .inr (.inl (u_5)))), (mo, .inr (9, [.int (u_18.2 0 0), .int (u_18.2 1 0), .ref g2, .ref g3, .ref g4, .ref g5, .ref g6, .ref g7, .ref g8, .ref g9, .ref g10, .ref g11, .ref g12, .ref g13, .ref g14, .ref g15, .ref g16, .ref g17, .ref g18, .ref g19, .int (u_18.2 2 0), .int (u_18.2 3 0), .ref g22, .int (u_18.2 4 0), .ref g24, .int (u_18.2 5 0), .int (u_18.2 6 0), .int (u_18.2 7 0), .ref g28, .ref g29, .int (u_18.2 8 0), .int (u_18.2 9 0)]))] H := hP
    have hD : va_D A [(ou, .inl (C 2, 1, .inr (.inl (u_5)))), (mo, .inr (9, [.int (u_18.2 0 0), .int (u_18.2 1 0), .ref g2, .ref g3, .ref g4, .ref g5, .ref g6, .ref g7, .ref g8, .ref g9, .ref g10, .ref g11, .ref g12, .ref g13, .ref g14, .ref g15, .ref g16, .ref g17, .ref g18, .ref g19, .int (u_18.2 2 0), .int (u_18.2 3 0), .ref g22, .int (u_18.2 4 0), .ref g24, .int (u_18.2 5 0), .int (u_18.2 6 0), .int (u_18.2 7 0), .ref g28, .ref g29, .int (u_18.2 8 0), .int (u_18.2 9 0)]))] := hD
    have hq_296 := hw
    rcases hq_296 with ⟨z1, z2, z3⟩ | ⟨z1, z3⟩
    · skip
      exact absurd z1 y1
    · skip
      refine lv_istore (lv' := [(6, .int r_17), (5, .int 1), (4, .int 0), (3, .ref ou), (2, .ref mo), (1, .ref h0), (0, .ref b)]) hx hb dL_law_299 hl (by decide) rfl (fun ls hl => ?_)
      refine lv_aload_n hx hb dL_law_301 rfl (lv_at hl 4 rfl) ?_
      have hPc := hP.sub (ws' := [(mo, .inr (9, [.int (u_18.2 0 0), .int (u_18.2 1 0), .ref g2, .ref g3, .ref g4, .ref g5, .ref g6, .ref g7, .ref g8, .ref g9, .ref g10, .ref g11, .ref g12, .ref g13, .ref g14, .ref g15, .ref g16, .ref g17, .ref g18, .ref g19, .int (u_18.2 2 0), .int (u_18.2 3 0), .ref g22, .int (u_18.2 4 0), .ref g24, .int (u_18.2 5 0), .int (u_18.2 6 0), .int (u_18.2 7 0), .ref g28, .ref g29, .int (u_18.2 8 0), .int (u_18.2 9 0)]))]) [1] rfl
      have hDc := hD.sub (ws' := [(mo, .inr (9, [.int (u_18.2 0 0), .int (u_18.2 1 0), .ref g2, .ref g3, .ref g4, .ref g5, .ref g6, .ref g7, .ref g8, .ref g9, .ref g10, .ref g11, .ref g12, .ref g13, .ref g14, .ref g15, .ref g16, .ref g17, .ref g18, .ref g19, .int (u_18.2 2 0), .int (u_18.2 3 0), .ref g22, .int (u_18.2 4 0), .ref g24, .int (u_18.2 5 0), .int (u_18.2 6 0), .int (u_18.2 7 0), .ref g28, .ref g29, .int (u_18.2 8 0), .int (u_18.2 9 0)]))]) [1] (by decide) rfl
      have hFc := va_free (wc := [(mo, .inr (9, [.int (u_18.2 0 0), .int (u_18.2 1 0), .ref g2, .ref g3, .ref g4, .ref g5, .ref g6, .ref g7, .ref g8, .ref g9, .ref g10, .ref g11, .ref g12, .ref g13, .ref g14, .ref g15, .ref g16, .ref g17, .ref g18, .ref g19, .int (u_18.2 2 0), .int (u_18.2 3 0), .ref g22, .int (u_18.2 4 0), .ref g24, .int (u_18.2 5 0), .int (u_18.2 6 0), .int (u_18.2 7 0), .ref g28, .ref g29, .int (u_18.2 8 0), .int (u_18.2 9 0)]))]) hD hS hA [1] rfl
      refine va_calli (va_runV (As := []) (rest := []) ⟨hx, hb, hml, hown, ht⟩ (k9_thrown l D C s.heap.size H.size mo g2 g3 g4 g5 g6 g7 g8 g9 g10 g11 g12 g13 g14 g15 g16 g17 g18 g19 g22 g24 g28 g29 (u_18.2 0 0) (u_18.2 1 0) (u_18.2 2 0) (u_18.2 3 0) (u_18.2 4 0) (u_18.2 5 0) (u_18.2 6 0) (u_18.2 7 0) (u_18.2 8 0) (u_18.2 9 0)) (cwV 0 ht (xg_V m_562 m_563 m_564 m_391 m_221) rfl rfl rfl (by decide +kernel) ⟨Nat.le_of_ble_eq_true rfl, Nat.le_of_ble_eq_true rfl⟩) ⟨xPc_bl, va_recv hK hPc (ci := 9) (q0 := 0) rfl rfl, xPc_at hPc hK hDc hE hS hAb⟩ rfl rfl hl.1 rfl (lv_room (Nat.le_of_ble_eq_true rfl)) dL_law_302 ⟨(by decide), (by decide)⟩) hS (fun q _ h => hFc q h) hFc (fun r_19 u_20 t H1 locs ht1 hvm hw hB hz1 hk1 hS => ?_)
      obtain ⟨hP1, hD1⟩ := hB
      rw [ht1] at hP1
      try dsimp only at hw
      obtain ⟨hP, hD⟩ := va_join (wr := [(ou, .inl (C 2, 1, .inr (.inl (u_5))))]) (w1 := [(mo, .inr (9, [.int (u_18.2 0 0), .int (u_18.2 1 0), .ref g2, .ref g3, .ref g4, .ref g5, .ref g6, .ref g7, .ref g8, .ref g9, .ref g10, .ref g11, .ref g12, .ref g13, .ref g14, .ref g15, .ref g16, .ref g17, .ref g18, .ref g19, .int (u_18.2 2 0), .int (u_18.2 3 0), .ref g22, .int (u_18.2 4 0), .ref g24, .int (u_18.2 5 0), .int (u_18.2 6 0), .int (u_18.2 7 0), .ref g28, .ref g29, .int (u_18.2 8 0), .int (u_18.2 9 0)]))]) hP hD [1] [0] rfl rfl (by decide) (by decide) hk1 hFc hP1 hD1
      generalize H1 = H at hP hS ⊢
      have hP : va_P D vwCl [(ou, .inl (C 2, 1, .inr (.inl (u_5)))), (mo, .inr (9, [.int (u_18.2 0 0), .int (u_18.2 1 0), .ref g2, .ref g3, .ref g4, .ref g5, .ref g6, .ref g7, .ref g8, .ref g9, .ref g10, .ref g11, .ref g12, .ref g13, .ref g14, .ref g15, .ref g16, .ref g17, .ref g18, .ref g19, .int (u_18.2 2 0), .int (u_18.2 3 0), .ref g22, .int (u_18.2 4 0), .ref g24, .int (u_18.2 5 0), .int (u_18.2 6 0), .int (u_18.2 7 0), .ref g28, .ref g29, .int (u_18.2 8 0), .int (u_18.2 9 0)]))] H := hP
      have hD : va_D A [(ou, .inl (C 2, 1, .inr (.inl (u_5)))), (mo, .inr (9, [.int (u_18.2 0 0), .int (u_18.2 1 0), .ref g2, .ref g3, .ref g4, .ref g5, .ref g6, .ref g7, .ref g8, .ref g9, .ref g10, .ref g11, .ref g12, .ref g13, .ref g14, .ref g15, .ref g16, .ref g17, .ref g18, .ref g19, .int (u_18.2 2 0), .int (u_18.2 3 0), .ref g22, .int (u_18.2 4 0), .ref g24, .int (u_18.2 5 0), .int (u_18.2 6 0), .int (u_18.2 7 0), .ref g28, .ref g29, .int (u_18.2 8 0), .int (u_18.2 9 0)]))] := hD
      have hq_302 := hw
      obtain rfl : r_19 = (1 : Int32) := hw.trans z3
      refine lv_iload hx hb dL_law_305 (lv_at hl 1 rfl) ?_
      refine lv_icmp_eq (tgt := 312) hx hb dL_law_307 (by decide) (fun c_307 => ?_) (fun c_307 => ?_)
      rotate_left
      · exact absurd c_307 (by decide)
      refine lv_iload hx hb dL_law_312 (lv_at hl 1 rfl) ?_
      refine lv_if_ne (tgt := 329) hx hb dL_law_314 (by decide) (fun c_314 => ?_) (fun c_314 => ?_)
      rotate_left
      · exact absurd c_314 (by decide)
      refine lv_goto (tgt := 1732) hx hb dL_law_329 (by decide) ?_
      exact lc_end ⟨hl0, hx, hb, hr, hml, hown, ht, hX, hbl, hlocks, hK, hE, hA, hAs, hbA⟩ (by decide) (by decide) hS (lv_sub hl [2, 6] rfl)
set_option maxHeartbeats 4000000 in
set_option maxRecDepth 100000 in
theorem lc_proxy {p : Program} {l : Launch} {e : Env} {s : State} {m : MethodId} {below : List Frame} {meth : Method} {c : Code} {b : Nat} {xs : Nat → Int32} {D : va_G} {C : Nat → ClassId} {A : Nat → Prop} {h0 s0 de kl tl cu hk ca kx ky tx ty a0 a1 a2 a3 a4 a5 a6 a7 a8 a9 a10 a11 ou mo g2 g3 g4 g5 g6 g7 g8 g9 g10 g11 g12 g13 g14 g15 g16 g17 g18 g19 g22 g24 g28 g29 : Nat} {fo : Nat → Int64} (h : lAt p l s m meth c b 6 xs D C A) {H : Heap} {locs : List Loc} {ls : Array Slot} (hP : va_P D vwCl [(h0, .inr (5, [.ref s0, .ref de, .ref kl, .ref tl, .ref cu, .ref hk, .ref ca, .int 0, .int 0, .int (-1), .int 0, .int 0])), (kl, .inr (2, [.ref kx, .ref ky, .int 0])), (tl, .inr (4, [.ref tx, .ref ty, .int 1])), (s0, .inr (3, [.ref a0, .ref a1, .ref a2, .ref a3, .ref a4, .ref a5, .ref a6, .int 0, .ref a7, .ref a8, .ref a9, .ref a10, .ref a11, .int 0])), (ou, .inl (C 2, 1, .inr (.inl fo))), (mo, .inr (9, [.int 0, .int 0, .ref g2, .ref g3, .ref g4, .ref g5, .ref g6, .ref g7, .ref g8, .ref g9, .ref g10, .ref g11, .ref g12, .ref g13, .ref g14, .ref g15, .ref g16, .ref g17, .ref g18, .ref g19, .int 0, .int 0, .ref g22, .int 0, .ref g24, .int 0, .int 0, .int (-1), .ref g28, .ref g29, .int 0, .int 0]))] H) (hD : va_D A [(h0, .inr (5, [.ref s0, .ref de, .ref kl, .ref tl, .ref cu, .ref hk, .ref ca, .int 0, .int 0, .int (-1), .int 0, .int 0])), (kl, .inr (2, [.ref kx, .ref ky, .int 0])), (tl, .inr (4, [.ref tx, .ref ty, .int 1])), (s0, .inr (3, [.ref a0, .ref a1, .ref a2, .ref a3, .ref a4, .ref a5, .ref a6, .int 0, .ref a7, .ref a8, .ref a9, .ref a10, .ref a11, .int 0])), (ou, .inl (C 2, 1, .inr (.inl fo))), (mo, .inr (9, [.int 0, .int 0, .ref g2, .ref g3, .ref g4, .ref g5, .ref g6, .ref g7, .ref g8, .ref g9, .ref g10, .ref g11, .ref g12, .ref g13, .ref g14, .ref g15, .ref g16, .ref g17, .ref g18, .ref g19, .int 0, .int 0, .ref g22, .int 0, .ref g24, .int 0, .int 0, .int (-1), .ref g28, .ref g29, .int 0, .int 0]))]) (hS : va_S A s.heap H locs) (hl : lv_has ls 7 [(4, .int 0), (3, .ref ou), (2, .ref mo), (1, .ref h0), (0, .ref b)]) : W p l e room_1 s m #[Value.ref b] below meth c H locs 254 111937 (lw_Z below #[Value.ref b] s) (F0 m 332 ls []) := by
  obtain ⟨hl0, hx, hb, hr, hml, hown, ht, hX, hbl, hlocks, hK, hE, hA, hAs, hbA⟩ := h
  have hAb := hAs
  refine lv_aload_n hx hb dL_law_332 rfl (lv_at hl 3 rfl) ?_
  refine lv_aload_n hx hb dL_law_333 rfl (lv_at hl 4 rfl) ?_
  refine lv_iload hx hb dL_law_334 (lv_at hl 0 rfl) ?_
  refine lv_iconst (v := 1) hx hb dL_law_336 (by decide) ?_
  refine lv_iadd hx hb dL_law_337 ?_
  refine lv_topi (fun x_1 ex_1 => ?_)
  obtain rfl : x_1 = (1 : Int32) := ex_1.trans (by decide)
  refine va_sld hx hb hX hbl hbA hS (by unfold vp_in; decide) dL_law_338 ?_
  refine lv_aload_n hx hb dL_law_339 rfl (lv_at hl 4 rfl) ?_
  refine lv_iload hx hb dL_law_340 (lv_at hl 0 rfl) ?_
  refine lv_iconst (v := 2) hx hb dL_law_342 (by decide) ?_
  refine lv_iadd hx hb dL_law_343 ?_
  refine lv_topi (fun x_2 ex_2 => ?_)
  obtain rfl : x_2 = (2 : Int32) := ex_2.trans (by decide)
  refine va_sld hx hb hX hbl hbA hS (by unfold vp_in; decide) dL_law_344 ?_
  refine lv_aload_n hx hb dL_law_345 rfl (lv_at hl 1 rfl) ?_
  have hPc := hP.sub (ws' := [(h0, .inr (5, [.ref s0, .ref de, .ref kl, .ref tl, .ref cu, .ref hk, .ref ca, .int 0, .int 0, .int (-1), .int 0, .int 0])), (kl, .inr (2, [.ref kx, .ref ky, .int 0])), (tl, .inr (4, [.ref tx, .ref ty, .int 1])), (s0, .inr (3, [.ref a0, .ref a1, .ref a2, .ref a3, .ref a4, .ref a5, .ref a6, .int 0, .ref a7, .ref a8, .ref a9, .ref a10, .ref a11, .int 0])), (ou, .inl (C 2, 1, .inr (.inl fo)))]) [0, 1, 2, 3, 4] rfl
  have hDc := hD.sub (ws' := [(h0, .inr (5, [.ref s0, .ref de, .ref kl, .ref tl, .ref cu, .ref hk, .ref ca, .int 0, .int 0, .int (-1), .int 0, .int 0])), (kl, .inr (2, [.ref kx, .ref ky, .int 0])), (tl, .inr (4, [.ref tx, .ref ty, .int 1])), (s0, .inr (3, [.ref a0, .ref a1, .ref a2, .ref a3, .ref a4, .ref a5, .ref a6, .int 0, .ref a7, .ref a8, .ref a9, .ref a10, .ref a11, .int 0])), (ou, .inl (C 2, 1, .inr (.inl fo)))]) [0, 1, 2, 3, 4] (by decide) rfl
  have hFc := va_free (wc := [(h0, .inr (5, [.ref s0, .ref de, .ref kl, .ref tl, .ref cu, .ref hk, .ref ca, .int 0, .int 0, .int (-1), .int 0, .int 0])), (kl, .inr (2, [.ref kx, .ref ky, .int 0])), (tl, .inr (4, [.ref tx, .ref ty, .int 1])), (s0, .inr (3, [.ref a0, .ref a1, .ref a2, .ref a3, .ref a4, .ref a5, .ref a6, .int 0, .ref a7, .ref a8, .ref a9, .ref a10, .ref a11, .int 0])), (ou, .inl (C 2, 1, .inr (.inl fo)))]) hD hS hA [0, 1, 2, 3, 4] rfl
  refine va_calli (vx_runSW (As := [.ref h0, .int (xs (Int32.toNatClampNeg 1)), .int (xs (Int32.toNatClampNeg 2)), .ref ou]) (rest := []) ⟨hx, hb, hml, hown, ht⟩ (kL_proxy l hl0 D C s.heap.size H.size h0 s0 de kl tl cu hk ca kx ky tx ty a0 a1 a2 a3 a4 a5 a6 a7 a8 a9 a10 a11 ((xs (Int32.toNatClampNeg 1))) ((xs (Int32.toNatClampNeg 2))) ou fo) (vx_cwSW 4 ht (xg_T m_575 m_576 m_558 m_472) rfl rfl rfl (by decide +kernel) ⟨Nat.le_of_ble_eq_true rfl, Nat.le_of_ble_eq_true rfl⟩) ⟨xPc_bl, xPc_at hPc hK hDc hE hS hAb⟩ rfl rfl hl.1 rfl (lv_room (Nat.le_of_ble_eq_true rfl)) dL_law_346 ⟨(by decide), (by decide)⟩) hS (fun q _ h => hFc q h) hFc (fun r_3 u_4 t H1 locs ht1 hvm hw hB hz1 hk1 hS => ?_)
  obtain ⟨hP1, hD1⟩ := hB
  rw [ht1] at hP1
  try dsimp only at hw
  obtain ⟨hP, hD⟩ := va_join (wr := [(mo, .inr (9, [.int 0, .int 0, .ref g2, .ref g3, .ref g4, .ref g5, .ref g6, .ref g7, .ref g8, .ref g9, .ref g10, .ref g11, .ref g12, .ref g13, .ref g14, .ref g15, .ref g16, .ref g17, .ref g18, .ref g19, .int 0, .int 0, .ref g22, .int 0, .ref g24, .int 0, .int 0, .int (-1), .ref g28, .ref g29, .int 0, .int 0]))]) (w1 := [(ou, .inl (C 2, 1, .inr (.inl (u_4))))]) hP hD [0, 1, 2, 3, 4] [5] rfl rfl (by decide) (by decide) hk1 hFc hP1 hD1
  generalize H1 = H at hP hS ⊢
  have hP : va_P D vwCl [(mo, .inr (9, [.int 0, .int 0, .ref g2, .ref g3, .ref g4, .ref g5, .ref g6, .ref g7, .ref g8, .ref g9, .ref g10, .ref g11, .ref g12, .ref g13, .ref g14, .ref g15, .ref g16, .ref g17, .ref g18, .ref g19, .int 0, .int 0, .ref g22, .int 0, .ref g24, .int 0, .int 0, .int (-1), .ref g28, .ref g29, .int 0, .int 0])), (ou, .inl (C 2, 1, .inr (.inl (u_4))))] H := hP
  have hD : va_D A [(mo, .inr (9, [.int 0, .int 0, .ref g2, .ref g3, .ref g4, .ref g5, .ref g6, .ref g7, .ref g8, .ref g9, .ref g10, .ref g11, .ref g12, .ref g13, .ref g14, .ref g15, .ref g16, .ref g17, .ref g18, .ref g19, .int 0, .int 0, .ref g22, .int 0, .ref g24, .int 0, .int 0, .int (-1), .ref g28, .ref g29, .int 0, .int 0])), (ou, .inl (C 2, 1, .inr (.inl (u_4))))] := hD
  have hq_346 := hw
  obtain rfl : r_3 = (1 : Int32) := hw
  refine W.widen (k := 257) (n := 111955) (by decide) (by decide) ?_
  refine lv_istore (lv' := [(5, .int 1), (4, .int 0), (3, .ref ou), (2, .ref mo), (1, .ref h0), (0, .ref b)]) hx hb dL_law_349 hl (by decide) rfl (fun ls hl => ?_)
  refine lv_aload_n hx hb dL_law_351 rfl (lv_at hl 3 rfl) ?_
  refine lv_aload_n hx hb dL_law_352 rfl (lv_at hl 5 rfl) ?_
  refine lv_iload hx hb dL_law_353 (lv_at hl 1 rfl) ?_
  refine lv_iconst (v := 1) hx hb dL_law_355 (by decide) ?_
  refine lv_iadd hx hb dL_law_356 ?_
  refine lv_topi (fun x_5 ex_5 => ?_)
  obtain rfl : x_5 = (1 : Int32) := ex_5.trans (by decide)
  refine va_sld hx hb hX hbl hbA hS (by unfold vp_in; decide) dL_law_357 ?_
  refine lv_aload_n hx hb dL_law_358 rfl (lv_at hl 5 rfl) ?_
  refine lv_iload hx hb dL_law_359 (lv_at hl 1 rfl) ?_
  refine lv_iconst (v := 2) hx hb dL_law_361 (by decide) ?_
  refine lv_iadd hx hb dL_law_362 ?_
  refine lv_topi (fun x_6 ex_6 => ?_)
  obtain rfl : x_6 = (2 : Int32) := ex_6.trans (by decide)
  refine va_sld hx hb hX hbl hbA hS (by unfold vp_in; decide) dL_law_363 ?_
  have hPc := hP.sub (ws' := [(mo, .inr (9, [.int 0, .int 0, .ref g2, .ref g3, .ref g4, .ref g5, .ref g6, .ref g7, .ref g8, .ref g9, .ref g10, .ref g11, .ref g12, .ref g13, .ref g14, .ref g15, .ref g16, .ref g17, .ref g18, .ref g19, .int 0, .int 0, .ref g22, .int 0, .ref g24, .int 0, .int 0, .int (-1), .ref g28, .ref g29, .int 0, .int 0]))]) [0] rfl
  have hDc := hD.sub (ws' := [(mo, .inr (9, [.int 0, .int 0, .ref g2, .ref g3, .ref g4, .ref g5, .ref g6, .ref g7, .ref g8, .ref g9, .ref g10, .ref g11, .ref g12, .ref g13, .ref g14, .ref g15, .ref g16, .ref g17, .ref g18, .ref g19, .int 0, .int 0, .ref g22, .int 0, .ref g24, .int 0, .int 0, .int (-1), .ref g28, .ref g29, .int 0, .int 0]))]) [0] (by decide) rfl
  have hFc := va_free (wc := [(mo, .inr (9, [.int 0, .int 0, .ref g2, .ref g3, .ref g4, .ref g5, .ref g6, .ref g7, .ref g8, .ref g9, .ref g10, .ref g11, .ref g12, .ref g13, .ref g14, .ref g15, .ref g16, .ref g17, .ref g18, .ref g19, .int 0, .int 0, .ref g22, .int 0, .ref g24, .int 0, .int 0, .int (-1), .ref g28, .ref g29, .int 0, .int 0]))]) hD hS hA [0] rfl
  refine va_calli (va_runV (As := [.int (xs (Int32.toNatClampNeg 1)), .int (xs (Int32.toNatClampNeg 2))]) (rest := []) ⟨hx, hb, hml, hown, ht⟩ (k9p_proxy l D C s.heap.size H.size mo g2 g3 g4 g5 g6 g7 g8 g9 g10 g11 g12 g13 g14 g15 g16 g17 g18 g19 g22 g24 g28 g29 ((xs (Int32.toNatClampNeg 1))) ((xs (Int32.toNatClampNeg 2)))) (cwV 2 ht (xg_V m_577 m_578 m_579 m_391 m_225) rfl rfl rfl (by decide +kernel) ⟨Nat.le_of_ble_eq_true rfl, Nat.le_of_ble_eq_true rfl⟩) ⟨xPc_bl, va_recv hK hPc (ci := 9) (q0 := 0) rfl rfl, xPc_at hPc hK hDc hE hS hAb⟩ rfl rfl hl.1 rfl (lv_room (Nat.le_of_ble_eq_true rfl)) dL_law_364 ⟨(by decide), (by decide)⟩) hS (fun q _ h => hFc q h) hFc (fun r_7 u_8 t H1 locs ht1 hvm hw hB hz1 hk1 hS => ?_)
  obtain ⟨hP1, hD1⟩ := hB
  rw [ht1] at hP1
  try dsimp only at hw
  obtain ⟨hP, hD⟩ := va_join (wr := [(ou, .inl (C 2, 1, .inr (.inl (u_4))))]) (w1 := [(mo, .inr (9, [.int (u_8.2 0 0), .int (u_8.2 1 0), .ref g2, .ref g3, .ref g4, .ref g5, .ref g6, .ref g7, .ref g8, .ref g9, .ref g10, .ref g11, .ref g12, .ref g13, .ref g14, .ref g15, .ref g16, .ref g17, .ref g18, .ref g19, .int (u_8.2 2 0), .int (u_8.2 3 0), .ref g22, .int (u_8.2 4 0), .ref g24, .int (u_8.2 5 0), .int (u_8.2 6 0), .int (u_8.2 7 0), .ref g28, .ref g29, .int (u_8.2 8 0), .int (u_8.2 9 0)]))]) hP hD [0] [1] rfl rfl (by decide) (by decide) hk1 hFc hP1 hD1
  generalize H1 = H at hP hS ⊢
  have hP : va_P D vwCl [(ou, .inl (C 2, 1, .inr (.inl (u_4)))), (mo, .inr (9, [.int (u_8.2 0 0), .int (u_8.2 1 0), .ref g2, .ref g3, .ref g4, .ref g5, .ref g6, .ref g7, .ref g8, .ref g9, .ref g10, .ref g11, .ref g12, .ref g13, .ref g14, .ref g15, .ref g16, .ref g17, .ref g18, .ref g19, .int (u_8.2 2 0), .int (u_8.2 3 0), .ref g22, .int (u_8.2 4 0), .ref g24, .int (u_8.2 5 0), .int (u_8.2 6 0), .int (u_8.2 7 0), .ref g28, .ref g29, .int (u_8.2 8 0), .int (u_8.2 9 0)]))] H := hP
  have hD : va_D A [(ou, .inl (C 2, 1, .inr (.inl (u_4)))), (mo, .inr (9, [.int (u_8.2 0 0), .int (u_8.2 1 0), .ref g2, .ref g3, .ref g4, .ref g5, .ref g6, .ref g7, .ref g8, .ref g9, .ref g10, .ref g11, .ref g12, .ref g13, .ref g14, .ref g15, .ref g16, .ref g17, .ref g18, .ref g19, .int (u_8.2 2 0), .int (u_8.2 3 0), .ref g22, .int (u_8.2 4 0), .ref g24, .int (u_8.2 5 0), .int (u_8.2 6 0), .int (u_8.2 7 0), .ref g28, .ref g29, .int (u_8.2 8 0), .int (u_8.2 9 0)]))] := hD
  have hq_364 := hw
  refine lv_istore (lv' := [(6, .int r_7), (5, .int 1), (4, .int 0), (3, .ref ou), (2, .ref mo), (1, .ref h0), (0, .ref b)]) hx hb dL_law_367 hl (by decide) rfl (fun ls hl => ?_)
  refine lv_aload_n hx hb dL_law_369 rfl (lv_at hl 4 rfl) ?_
  have hPc := hP.sub (ws' := [(mo, .inr (9, [.int (u_8.2 0 0), .int (u_8.2 1 0), .ref g2, .ref g3, .ref g4, .ref g5, .ref g6, .ref g7, .ref g8, .ref g9, .ref g10, .ref g11, .ref g12, .ref g13, .ref g14, .ref g15, .ref g16, .ref g17, .ref g18, .ref g19, .int (u_8.2 2 0), .int (u_8.2 3 0), .ref g22, .int (u_8.2 4 0), .ref g24, .int (u_8.2 5 0), .int (u_8.2 6 0), .int (u_8.2 7 0), .ref g28, .ref g29, .int (u_8.2 8 0), .int (u_8.2 9 0)]))]) [1] rfl
  have hDc := hD.sub (ws' := [(mo, .inr (9, [.int (u_8.2 0 0), .int (u_8.2 1 0), .ref g2, .ref g3, .ref g4, .ref g5, .ref g6, .ref g7, .ref g8, .ref g9, .ref g10, .ref g11, .ref g12, .ref g13, .ref g14, .ref g15, .ref g16, .ref g17, .ref g18, .ref g19, .int (u_8.2 2 0), .int (u_8.2 3 0), .ref g22, .int (u_8.2 4 0), .ref g24, .int (u_8.2 5 0), .int (u_8.2 6 0), .int (u_8.2 7 0), .ref g28, .ref g29, .int (u_8.2 8 0), .int (u_8.2 9 0)]))]) [1] (by decide) rfl
  have hFc := va_free (wc := [(mo, .inr (9, [.int (u_8.2 0 0), .int (u_8.2 1 0), .ref g2, .ref g3, .ref g4, .ref g5, .ref g6, .ref g7, .ref g8, .ref g9, .ref g10, .ref g11, .ref g12, .ref g13, .ref g14, .ref g15, .ref g16, .ref g17, .ref g18, .ref g19, .int (u_8.2 2 0), .int (u_8.2 3 0), .ref g22, .int (u_8.2 4 0), .ref g24, .int (u_8.2 5 0), .int (u_8.2 6 0), .int (u_8.2 7 0), .ref g28, .ref g29, .int (u_8.2 8 0), .int (u_8.2 9 0)]))]) hD hS hA [1] rfl
  refine va_calli (va_runV (As := []) (rest := []) ⟨hx, hb, hml, hown, ht⟩ (k9_thrown l D C s.heap.size H.size mo g2 g3 g4 g5 g6 g7 g8 g9 g10 g11 g12 g13 g14 g15 g16 g17 g18 g19 g22 g24 g28 g29 (u_8.2 0 0) (u_8.2 1 0) (u_8.2 2 0) (u_8.2 3 0) (u_8.2 4 0) (u_8.2 5 0) (u_8.2 6 0) (u_8.2 7 0) (u_8.2 8 0) (u_8.2 9 0)) (cwV 0 ht (xg_V m_562 m_563 m_564 m_391 m_221) rfl rfl rfl (by decide +kernel) ⟨Nat.le_of_ble_eq_true rfl, Nat.le_of_ble_eq_true rfl⟩) ⟨xPc_bl, va_recv hK hPc (ci := 9) (q0 := 0) rfl rfl, xPc_at hPc hK hDc hE hS hAb⟩ rfl rfl hl.1 rfl (lv_room (Nat.le_of_ble_eq_true rfl)) dL_law_370 ⟨(by decide), (by decide)⟩) hS (fun q _ h => hFc q h) hFc (fun r_9 u_10 t H1 locs ht1 hvm hw hB hz1 hk1 hS => ?_)
  obtain ⟨hP1, hD1⟩ := hB
  rw [ht1] at hP1
  try dsimp only at hw
  obtain ⟨hP, hD⟩ := va_join (wr := [(ou, .inl (C 2, 1, .inr (.inl (u_4))))]) (w1 := [(mo, .inr (9, [.int (u_8.2 0 0), .int (u_8.2 1 0), .ref g2, .ref g3, .ref g4, .ref g5, .ref g6, .ref g7, .ref g8, .ref g9, .ref g10, .ref g11, .ref g12, .ref g13, .ref g14, .ref g15, .ref g16, .ref g17, .ref g18, .ref g19, .int (u_8.2 2 0), .int (u_8.2 3 0), .ref g22, .int (u_8.2 4 0), .ref g24, .int (u_8.2 5 0), .int (u_8.2 6 0), .int (u_8.2 7 0), .ref g28, .ref g29, .int (u_8.2 8 0), .int (u_8.2 9 0)]))]) hP hD [1] [0] rfl rfl (by decide) (by decide) hk1 hFc hP1 hD1
  generalize H1 = H at hP hS ⊢
  have hP : va_P D vwCl [(ou, .inl (C 2, 1, .inr (.inl (u_4)))), (mo, .inr (9, [.int (u_8.2 0 0), .int (u_8.2 1 0), .ref g2, .ref g3, .ref g4, .ref g5, .ref g6, .ref g7, .ref g8, .ref g9, .ref g10, .ref g11, .ref g12, .ref g13, .ref g14, .ref g15, .ref g16, .ref g17, .ref g18, .ref g19, .int (u_8.2 2 0), .int (u_8.2 3 0), .ref g22, .int (u_8.2 4 0), .ref g24, .int (u_8.2 5 0), .int (u_8.2 6 0), .int (u_8.2 7 0), .ref g28, .ref g29, .int (u_8.2 8 0), .int (u_8.2 9 0)]))] H := hP
  have hD : va_D A [(ou, .inl (C 2, 1, .inr (.inl (u_4)))), (mo, .inr (9, [.int (u_8.2 0 0), .int (u_8.2 1 0), .ref g2, .ref g3, .ref g4, .ref g5, .ref g6, .ref g7, .ref g8, .ref g9, .ref g10, .ref g11, .ref g12, .ref g13, .ref g14, .ref g15, .ref g16, .ref g17, .ref g18, .ref g19, .int (u_8.2 2 0), .int (u_8.2 3 0), .ref g22, .int (u_8.2 4 0), .ref g24, .int (u_8.2 5 0), .int (u_8.2 6 0), .int (u_8.2 7 0), .ref g28, .ref g29, .int (u_8.2 8 0), .int (u_8.2 9 0)]))] := hD
  have hq_370 := hw
  obtain rfl : r_9 = (1 : Int32) := hw.trans hq_364
  refine lv_iload hx hb dL_law_373 (lv_at hl 1 rfl) ?_
  refine lv_icmp_eq (tgt := 380) hx hb dL_law_375 (by decide) (fun c_375 => ?_) (fun c_375 => ?_)
  rotate_left
  · exact absurd c_375 (by decide)
  refine lv_iload hx hb dL_law_380 (lv_at hl 1 rfl) ?_
  refine lv_if_ne (tgt := 397) hx hb dL_law_382 (by decide) (fun c_382 => ?_) (fun c_382 => ?_)
  rotate_left
  · exact absurd c_382 (by decide)
  refine lv_goto (tgt := 1732) hx hb dL_law_397 (by decide) ?_
  exact lc_end ⟨hl0, hx, hb, hr, hml, hown, ht, hX, hbl, hlocks, hK, hE, hA, hAs, hbA⟩ (by decide) (by decide) hS (lv_sub hl [2, 6] rfl)
set_option maxHeartbeats 4000000 in
set_option maxRecDepth 100000 in
theorem lc_revoke {p : Program} {l : Launch} {e : Env} {s : State} {m : MethodId} {below : List Frame} {meth : Method} {c : Code} {b : Nat} {xs : Nat → Int32} {D : va_G} {C : Nat → ClassId} {A : Nat → Prop} {h0 s0 de kl tl cu hk ca kx ky tx ty a0 a1 a2 a3 a4 a5 a6 a7 a8 a9 a10 a11 ou mo g2 g3 g4 g5 g6 g7 g8 g9 g10 g11 g12 g13 g14 g15 g16 g17 g18 g19 g22 g24 g28 g29 : Nat} {fo : Nat → Int64} (h : lAt p l s m meth c b 6 xs D C A) {H : Heap} {locs : List Loc} {ls : Array Slot} (hP : va_P D vwCl [(h0, .inr (5, [.ref s0, .ref de, .ref kl, .ref tl, .ref cu, .ref hk, .ref ca, .int 0, .int 0, .int (-1), .int 0, .int 0])), (kl, .inr (2, [.ref kx, .ref ky, .int 0])), (tl, .inr (4, [.ref tx, .ref ty, .int 1])), (s0, .inr (3, [.ref a0, .ref a1, .ref a2, .ref a3, .ref a4, .ref a5, .ref a6, .int 0, .ref a7, .ref a8, .ref a9, .ref a10, .ref a11, .int 0])), (ou, .inl (C 2, 1, .inr (.inl fo))), (mo, .inr (9, [.int 0, .int 0, .ref g2, .ref g3, .ref g4, .ref g5, .ref g6, .ref g7, .ref g8, .ref g9, .ref g10, .ref g11, .ref g12, .ref g13, .ref g14, .ref g15, .ref g16, .ref g17, .ref g18, .ref g19, .int 0, .int 0, .ref g22, .int 0, .ref g24, .int 0, .int 0, .int (-1), .ref g28, .ref g29, .int 0, .int 0]))] H) (hD : va_D A [(h0, .inr (5, [.ref s0, .ref de, .ref kl, .ref tl, .ref cu, .ref hk, .ref ca, .int 0, .int 0, .int (-1), .int 0, .int 0])), (kl, .inr (2, [.ref kx, .ref ky, .int 0])), (tl, .inr (4, [.ref tx, .ref ty, .int 1])), (s0, .inr (3, [.ref a0, .ref a1, .ref a2, .ref a3, .ref a4, .ref a5, .ref a6, .int 0, .ref a7, .ref a8, .ref a9, .ref a10, .ref a11, .int 0])), (ou, .inl (C 2, 1, .inr (.inl fo))), (mo, .inr (9, [.int 0, .int 0, .ref g2, .ref g3, .ref g4, .ref g5, .ref g6, .ref g7, .ref g8, .ref g9, .ref g10, .ref g11, .ref g12, .ref g13, .ref g14, .ref g15, .ref g16, .ref g17, .ref g18, .ref g19, .int 0, .int 0, .ref g22, .int 0, .ref g24, .int 0, .int 0, .int (-1), .ref g28, .ref g29, .int 0, .int 0]))]) (hS : va_S A s.heap H locs) (hl : lv_has ls 7 [(4, .int 0), (3, .ref ou), (2, .ref mo), (1, .ref h0), (0, .ref b)]) : W p l e room_1 s m #[Value.ref b] below meth c H locs 254 111937 (lw_Z below #[Value.ref b] s) (F0 m 400 ls []) := by
  obtain ⟨hl0, hx, hb, hr, hml, hown, ht, hX, hbl, hlocks, hK, hE, hA, hAs, hbA⟩ := h
  have hAb := hAs
  refine lv_aload_n hx hb dL_law_400 rfl (lv_at hl 3 rfl) ?_
  refine lv_aload_n hx hb dL_law_401 rfl (lv_at hl 4 rfl) ?_
  refine lv_iload hx hb dL_law_402 (lv_at hl 0 rfl) ?_
  refine lv_iconst (v := 1) hx hb dL_law_404 (by decide) ?_
  refine lv_iadd hx hb dL_law_405 ?_
  refine lv_topi (fun x_1 ex_1 => ?_)
  obtain rfl : x_1 = (1 : Int32) := ex_1.trans (by decide)
  refine va_sld hx hb hX hbl hbA hS (by unfold vp_in; decide) dL_law_406 ?_
  refine lv_aload_n hx hb dL_law_407 rfl (lv_at hl 1 rfl) ?_
  have hPc := hP.sub (ws' := [(h0, .inr (5, [.ref s0, .ref de, .ref kl, .ref tl, .ref cu, .ref hk, .ref ca, .int 0, .int 0, .int (-1), .int 0, .int 0])), (kl, .inr (2, [.ref kx, .ref ky, .int 0])), (tl, .inr (4, [.ref tx, .ref ty, .int 1])), (s0, .inr (3, [.ref a0, .ref a1, .ref a2, .ref a3, .ref a4, .ref a5, .ref a6, .int 0, .ref a7, .ref a8, .ref a9, .ref a10, .ref a11, .int 0])), (ou, .inl (C 2, 1, .inr (.inl fo)))]) [0, 1, 2, 3, 4] rfl
  have hDc := hD.sub (ws' := [(h0, .inr (5, [.ref s0, .ref de, .ref kl, .ref tl, .ref cu, .ref hk, .ref ca, .int 0, .int 0, .int (-1), .int 0, .int 0])), (kl, .inr (2, [.ref kx, .ref ky, .int 0])), (tl, .inr (4, [.ref tx, .ref ty, .int 1])), (s0, .inr (3, [.ref a0, .ref a1, .ref a2, .ref a3, .ref a4, .ref a5, .ref a6, .int 0, .ref a7, .ref a8, .ref a9, .ref a10, .ref a11, .int 0])), (ou, .inl (C 2, 1, .inr (.inl fo)))]) [0, 1, 2, 3, 4] (by decide) rfl
  have hFc := va_free (wc := [(h0, .inr (5, [.ref s0, .ref de, .ref kl, .ref tl, .ref cu, .ref hk, .ref ca, .int 0, .int 0, .int (-1), .int 0, .int 0])), (kl, .inr (2, [.ref kx, .ref ky, .int 0])), (tl, .inr (4, [.ref tx, .ref ty, .int 1])), (s0, .inr (3, [.ref a0, .ref a1, .ref a2, .ref a3, .ref a4, .ref a5, .ref a6, .int 0, .ref a7, .ref a8, .ref a9, .ref a10, .ref a11, .int 0])), (ou, .inl (C 2, 1, .inr (.inl fo)))]) hD hS hA [0, 1, 2, 3, 4] rfl
  refine va_calli (vx_runSW (As := [.ref h0, .int (xs (Int32.toNatClampNeg 1)), .ref ou]) (rest := []) ⟨hx, hb, hml, hown, ht⟩ (kL_revoke l hl0 D C s.heap.size H.size h0 s0 de kl tl cu hk ca kx ky tx ty a0 a1 a2 a3 a4 a5 a6 a7 a8 a9 a10 a11 ((xs (Int32.toNatClampNeg 1))) ou fo) (vx_cwSW 3 ht (xg_T m_580 m_581 m_558 m_473) rfl rfl rfl (by decide +kernel) ⟨Nat.le_of_ble_eq_true rfl, Nat.le_of_ble_eq_true rfl⟩) ⟨xPc_bl, xPc_at hPc hK hDc hE hS hAb⟩ rfl rfl hl.1 rfl (lv_room (Nat.le_of_ble_eq_true rfl)) dL_law_408 ⟨(by decide), (by decide)⟩) hS (fun q _ h => hFc q h) hFc (fun r_2 u_3 t H1 locs ht1 hvm hw hB hz1 hk1 hS => ?_)
  obtain ⟨hP1, hD1⟩ := hB
  rw [ht1] at hP1
  try dsimp only at hw
  obtain ⟨hP, hD⟩ := va_join (wr := [(mo, .inr (9, [.int 0, .int 0, .ref g2, .ref g3, .ref g4, .ref g5, .ref g6, .ref g7, .ref g8, .ref g9, .ref g10, .ref g11, .ref g12, .ref g13, .ref g14, .ref g15, .ref g16, .ref g17, .ref g18, .ref g19, .int 0, .int 0, .ref g22, .int 0, .ref g24, .int 0, .int 0, .int (-1), .ref g28, .ref g29, .int 0, .int 0]))]) (w1 := [(ou, .inl (C 2, 1, .inr (.inl (u_3))))]) hP hD [0, 1, 2, 3, 4] [5] rfl rfl (by decide) (by decide) hk1 hFc hP1 hD1
  generalize H1 = H at hP hS ⊢
  have hP : va_P D vwCl [(mo, .inr (9, [.int 0, .int 0, .ref g2, .ref g3, .ref g4, .ref g5, .ref g6, .ref g7, .ref g8, .ref g9, .ref g10, .ref g11, .ref g12, .ref g13, .ref g14, .ref g15, .ref g16, .ref g17, .ref g18, .ref g19, .int 0, .int 0, .ref g22, .int 0, .ref g24, .int 0, .int 0, .int (-1), .ref g28, .ref g29, .int 0, .int 0])), (ou, .inl (C 2, 1, .inr (.inl (u_3))))] H := hP
  have hD : va_D A [(mo, .inr (9, [.int 0, .int 0, .ref g2, .ref g3, .ref g4, .ref g5, .ref g6, .ref g7, .ref g8, .ref g9, .ref g10, .ref g11, .ref g12, .ref g13, .ref g14, .ref g15, .ref g16, .ref g17, .ref g18, .ref g19, .int 0, .int 0, .ref g22, .int 0, .ref g24, .int 0, .int 0, .int (-1), .ref g28, .ref g29, .int 0, .int 0])), (ou, .inl (C 2, 1, .inr (.inl (u_3))))] := hD
  have hq_408 := hw
  obtain rfl : r_2 = (1 : Int32) := hw
  refine W.widen (k := 257) (n := 111955) (by decide) (by decide) ?_
  refine lv_istore (lv' := [(5, .int 1), (4, .int 0), (3, .ref ou), (2, .ref mo), (1, .ref h0), (0, .ref b)]) hx hb dL_law_411 hl (by decide) rfl (fun ls hl => ?_)
  refine lv_aload_n hx hb dL_law_413 rfl (lv_at hl 3 rfl) ?_
  refine lv_aload_n hx hb dL_law_414 rfl (lv_at hl 5 rfl) ?_
  refine lv_iload hx hb dL_law_415 (lv_at hl 1 rfl) ?_
  refine lv_iconst (v := 1) hx hb dL_law_417 (by decide) ?_
  refine lv_iadd hx hb dL_law_418 ?_
  refine lv_topi (fun x_4 ex_4 => ?_)
  obtain rfl : x_4 = (1 : Int32) := ex_4.trans (by decide)
  refine va_sld hx hb hX hbl hbA hS (by unfold vp_in; decide) dL_law_419 ?_
  have hPc := hP.sub (ws' := [(mo, .inr (9, [.int 0, .int 0, .ref g2, .ref g3, .ref g4, .ref g5, .ref g6, .ref g7, .ref g8, .ref g9, .ref g10, .ref g11, .ref g12, .ref g13, .ref g14, .ref g15, .ref g16, .ref g17, .ref g18, .ref g19, .int 0, .int 0, .ref g22, .int 0, .ref g24, .int 0, .int 0, .int (-1), .ref g28, .ref g29, .int 0, .int 0]))]) [0] rfl
  have hDc := hD.sub (ws' := [(mo, .inr (9, [.int 0, .int 0, .ref g2, .ref g3, .ref g4, .ref g5, .ref g6, .ref g7, .ref g8, .ref g9, .ref g10, .ref g11, .ref g12, .ref g13, .ref g14, .ref g15, .ref g16, .ref g17, .ref g18, .ref g19, .int 0, .int 0, .ref g22, .int 0, .ref g24, .int 0, .int 0, .int (-1), .ref g28, .ref g29, .int 0, .int 0]))]) [0] (by decide) rfl
  have hFc := va_free (wc := [(mo, .inr (9, [.int 0, .int 0, .ref g2, .ref g3, .ref g4, .ref g5, .ref g6, .ref g7, .ref g8, .ref g9, .ref g10, .ref g11, .ref g12, .ref g13, .ref g14, .ref g15, .ref g16, .ref g17, .ref g18, .ref g19, .int 0, .int 0, .ref g22, .int 0, .ref g24, .int 0, .int 0, .int (-1), .ref g28, .ref g29, .int 0, .int 0]))]) hD hS hA [0] rfl
  refine va_calli (va_runV (As := [.int (xs (Int32.toNatClampNeg 1))]) (rest := []) ⟨hx, hb, hml, hown, ht⟩ (k9p_revoke l D C s.heap.size H.size mo g2 g3 g4 g5 g6 g7 g8 g9 g10 g11 g12 g13 g14 g15 g16 g17 g18 g19 g22 g24 g28 g29 ((xs (Int32.toNatClampNeg 1)))) (cwV 1 ht (xg_V m_582 m_583 m_584 m_391 m_226) rfl rfl rfl (by decide +kernel) ⟨Nat.le_of_ble_eq_true rfl, Nat.le_of_ble_eq_true rfl⟩) ⟨xPc_bl, va_recv hK hPc (ci := 9) (q0 := 0) rfl rfl, xPc_at hPc hK hDc hE hS hAb⟩ rfl rfl hl.1 rfl (lv_room (Nat.le_of_ble_eq_true rfl)) dL_law_420 ⟨(by decide), (by decide)⟩) hS (fun q _ h => hFc q h) hFc (fun r_5 u_6 t H1 locs ht1 hvm hw hB hz1 hk1 hS => ?_)
  obtain ⟨hP1, hD1⟩ := hB
  rw [ht1] at hP1
  try dsimp only at hw
  obtain ⟨hP, hD⟩ := va_join (wr := [(ou, .inl (C 2, 1, .inr (.inl (u_3))))]) (w1 := [(mo, .inr (9, [.int (u_6.2 0 0), .int (u_6.2 1 0), .ref g2, .ref g3, .ref g4, .ref g5, .ref g6, .ref g7, .ref g8, .ref g9, .ref g10, .ref g11, .ref g12, .ref g13, .ref g14, .ref g15, .ref g16, .ref g17, .ref g18, .ref g19, .int (u_6.2 2 0), .int (u_6.2 3 0), .ref g22, .int (u_6.2 4 0), .ref g24, .int (u_6.2 5 0), .int (u_6.2 6 0), .int (u_6.2 7 0), .ref g28, .ref g29, .int (u_6.2 8 0), .int (u_6.2 9 0)]))]) hP hD [0] [1] rfl rfl (by decide) (by decide) hk1 hFc hP1 hD1
  generalize H1 = H at hP hS ⊢
  have hP : va_P D vwCl [(ou, .inl (C 2, 1, .inr (.inl (u_3)))), (mo, .inr (9, [.int (u_6.2 0 0), .int (u_6.2 1 0), .ref g2, .ref g3, .ref g4, .ref g5, .ref g6, .ref g7, .ref g8, .ref g9, .ref g10, .ref g11, .ref g12, .ref g13, .ref g14, .ref g15, .ref g16, .ref g17, .ref g18, .ref g19, .int (u_6.2 2 0), .int (u_6.2 3 0), .ref g22, .int (u_6.2 4 0), .ref g24, .int (u_6.2 5 0), .int (u_6.2 6 0), .int (u_6.2 7 0), .ref g28, .ref g29, .int (u_6.2 8 0), .int (u_6.2 9 0)]))] H := hP
  have hD : va_D A [(ou, .inl (C 2, 1, .inr (.inl (u_3)))), (mo, .inr (9, [.int (u_6.2 0 0), .int (u_6.2 1 0), .ref g2, .ref g3, .ref g4, .ref g5, .ref g6, .ref g7, .ref g8, .ref g9, .ref g10, .ref g11, .ref g12, .ref g13, .ref g14, .ref g15, .ref g16, .ref g17, .ref g18, .ref g19, .int (u_6.2 2 0), .int (u_6.2 3 0), .ref g22, .int (u_6.2 4 0), .ref g24, .int (u_6.2 5 0), .int (u_6.2 6 0), .int (u_6.2 7 0), .ref g28, .ref g29, .int (u_6.2 8 0), .int (u_6.2 9 0)]))] := hD
  have hq_420 := hw
  refine lv_istore (lv' := [(6, .int r_5), (5, .int 1), (4, .int 0), (3, .ref ou), (2, .ref mo), (1, .ref h0), (0, .ref b)]) hx hb dL_law_423 hl (by decide) rfl (fun ls hl => ?_)
  refine lv_aload_n hx hb dL_law_425 rfl (lv_at hl 4 rfl) ?_
  have hPc := hP.sub (ws' := [(mo, .inr (9, [.int (u_6.2 0 0), .int (u_6.2 1 0), .ref g2, .ref g3, .ref g4, .ref g5, .ref g6, .ref g7, .ref g8, .ref g9, .ref g10, .ref g11, .ref g12, .ref g13, .ref g14, .ref g15, .ref g16, .ref g17, .ref g18, .ref g19, .int (u_6.2 2 0), .int (u_6.2 3 0), .ref g22, .int (u_6.2 4 0), .ref g24, .int (u_6.2 5 0), .int (u_6.2 6 0), .int (u_6.2 7 0), .ref g28, .ref g29, .int (u_6.2 8 0), .int (u_6.2 9 0)]))]) [1] rfl
  have hDc := hD.sub (ws' := [(mo, .inr (9, [.int (u_6.2 0 0), .int (u_6.2 1 0), .ref g2, .ref g3, .ref g4, .ref g5, .ref g6, .ref g7, .ref g8, .ref g9, .ref g10, .ref g11, .ref g12, .ref g13, .ref g14, .ref g15, .ref g16, .ref g17, .ref g18, .ref g19, .int (u_6.2 2 0), .int (u_6.2 3 0), .ref g22, .int (u_6.2 4 0), .ref g24, .int (u_6.2 5 0), .int (u_6.2 6 0), .int (u_6.2 7 0), .ref g28, .ref g29, .int (u_6.2 8 0), .int (u_6.2 9 0)]))]) [1] (by decide) rfl
  have hFc := va_free (wc := [(mo, .inr (9, [.int (u_6.2 0 0), .int (u_6.2 1 0), .ref g2, .ref g3, .ref g4, .ref g5, .ref g6, .ref g7, .ref g8, .ref g9, .ref g10, .ref g11, .ref g12, .ref g13, .ref g14, .ref g15, .ref g16, .ref g17, .ref g18, .ref g19, .int (u_6.2 2 0), .int (u_6.2 3 0), .ref g22, .int (u_6.2 4 0), .ref g24, .int (u_6.2 5 0), .int (u_6.2 6 0), .int (u_6.2 7 0), .ref g28, .ref g29, .int (u_6.2 8 0), .int (u_6.2 9 0)]))]) hD hS hA [1] rfl
  refine va_calli (va_runV (As := []) (rest := []) ⟨hx, hb, hml, hown, ht⟩ (k9_thrown l D C s.heap.size H.size mo g2 g3 g4 g5 g6 g7 g8 g9 g10 g11 g12 g13 g14 g15 g16 g17 g18 g19 g22 g24 g28 g29 (u_6.2 0 0) (u_6.2 1 0) (u_6.2 2 0) (u_6.2 3 0) (u_6.2 4 0) (u_6.2 5 0) (u_6.2 6 0) (u_6.2 7 0) (u_6.2 8 0) (u_6.2 9 0)) (cwV 0 ht (xg_V m_562 m_563 m_564 m_391 m_221) rfl rfl rfl (by decide +kernel) ⟨Nat.le_of_ble_eq_true rfl, Nat.le_of_ble_eq_true rfl⟩) ⟨xPc_bl, va_recv hK hPc (ci := 9) (q0 := 0) rfl rfl, xPc_at hPc hK hDc hE hS hAb⟩ rfl rfl hl.1 rfl (lv_room (Nat.le_of_ble_eq_true rfl)) dL_law_426 ⟨(by decide), (by decide)⟩) hS (fun q _ h => hFc q h) hFc (fun r_7 u_8 t H1 locs ht1 hvm hw hB hz1 hk1 hS => ?_)
  obtain ⟨hP1, hD1⟩ := hB
  rw [ht1] at hP1
  try dsimp only at hw
  obtain ⟨hP, hD⟩ := va_join (wr := [(ou, .inl (C 2, 1, .inr (.inl (u_3))))]) (w1 := [(mo, .inr (9, [.int (u_6.2 0 0), .int (u_6.2 1 0), .ref g2, .ref g3, .ref g4, .ref g5, .ref g6, .ref g7, .ref g8, .ref g9, .ref g10, .ref g11, .ref g12, .ref g13, .ref g14, .ref g15, .ref g16, .ref g17, .ref g18, .ref g19, .int (u_6.2 2 0), .int (u_6.2 3 0), .ref g22, .int (u_6.2 4 0), .ref g24, .int (u_6.2 5 0), .int (u_6.2 6 0), .int (u_6.2 7 0), .ref g28, .ref g29, .int (u_6.2 8 0), .int (u_6.2 9 0)]))]) hP hD [1] [0] rfl rfl (by decide) (by decide) hk1 hFc hP1 hD1
  generalize H1 = H at hP hS ⊢
  have hP : va_P D vwCl [(ou, .inl (C 2, 1, .inr (.inl (u_3)))), (mo, .inr (9, [.int (u_6.2 0 0), .int (u_6.2 1 0), .ref g2, .ref g3, .ref g4, .ref g5, .ref g6, .ref g7, .ref g8, .ref g9, .ref g10, .ref g11, .ref g12, .ref g13, .ref g14, .ref g15, .ref g16, .ref g17, .ref g18, .ref g19, .int (u_6.2 2 0), .int (u_6.2 3 0), .ref g22, .int (u_6.2 4 0), .ref g24, .int (u_6.2 5 0), .int (u_6.2 6 0), .int (u_6.2 7 0), .ref g28, .ref g29, .int (u_6.2 8 0), .int (u_6.2 9 0)]))] H := hP
  have hD : va_D A [(ou, .inl (C 2, 1, .inr (.inl (u_3)))), (mo, .inr (9, [.int (u_6.2 0 0), .int (u_6.2 1 0), .ref g2, .ref g3, .ref g4, .ref g5, .ref g6, .ref g7, .ref g8, .ref g9, .ref g10, .ref g11, .ref g12, .ref g13, .ref g14, .ref g15, .ref g16, .ref g17, .ref g18, .ref g19, .int (u_6.2 2 0), .int (u_6.2 3 0), .ref g22, .int (u_6.2 4 0), .ref g24, .int (u_6.2 5 0), .int (u_6.2 6 0), .int (u_6.2 7 0), .ref g28, .ref g29, .int (u_6.2 8 0), .int (u_6.2 9 0)]))] := hD
  have hq_426 := hw
  obtain rfl : r_7 = (1 : Int32) := hw.trans hq_420
  refine lv_iload hx hb dL_law_429 (lv_at hl 1 rfl) ?_
  refine lv_icmp_eq (tgt := 436) hx hb dL_law_431 (by decide) (fun c_431 => ?_) (fun c_431 => ?_)
  rotate_left
  · exact absurd c_431 (by decide)
  refine lv_iload hx hb dL_law_436 (lv_at hl 1 rfl) ?_
  refine lv_if_ne (tgt := 460) hx hb dL_law_438 (by decide) (fun c_438 => ?_) (fun c_438 => ?_)
  rotate_left
  · exact absurd c_438 (by decide)
  refine lv_goto (tgt := 1732) hx hb dL_law_460 (by decide) ?_
  exact lc_end ⟨hl0, hx, hb, hr, hml, hown, ht, hX, hbl, hlocks, hK, hE, hA, hAs, hbA⟩ (by decide) (by decide) hS (lv_sub hl [2, 6] rfl)
set_option maxHeartbeats 4000000 in
set_option maxRecDepth 100000 in
theorem lc_get {p : Program} {l : Launch} {e : Env} {s : State} {m : MethodId} {below : List Frame} {meth : Method} {c : Code} {b : Nat} {xs : Nat → Int32} {D : va_G} {C : Nat → ClassId} {A : Nat → Prop} {h0 s0 de kl tl cu hk ca kx ky tx ty a0 a1 a2 a3 a4 a5 a6 a7 a8 a9 a10 a11 ou mo g2 g3 g4 g5 g6 g7 g8 g9 g10 g11 g12 g13 g14 g15 g16 g17 g18 g19 g22 g24 g28 g29 : Nat} {fo : Nat → Int64} (h : lAt p l s m meth c b 6 xs D C A) {H : Heap} {locs : List Loc} {ls : Array Slot} (hP : va_P D vwCl [(h0, .inr (5, [.ref s0, .ref de, .ref kl, .ref tl, .ref cu, .ref hk, .ref ca, .int 0, .int 0, .int (-1), .int 0, .int 0])), (kl, .inr (2, [.ref kx, .ref ky, .int 0])), (tl, .inr (4, [.ref tx, .ref ty, .int 1])), (s0, .inr (3, [.ref a0, .ref a1, .ref a2, .ref a3, .ref a4, .ref a5, .ref a6, .int 0, .ref a7, .ref a8, .ref a9, .ref a10, .ref a11, .int 0])), (ou, .inl (C 2, 1, .inr (.inl fo))), (mo, .inr (9, [.int 0, .int 0, .ref g2, .ref g3, .ref g4, .ref g5, .ref g6, .ref g7, .ref g8, .ref g9, .ref g10, .ref g11, .ref g12, .ref g13, .ref g14, .ref g15, .ref g16, .ref g17, .ref g18, .ref g19, .int 0, .int 0, .ref g22, .int 0, .ref g24, .int 0, .int 0, .int (-1), .ref g28, .ref g29, .int 0, .int 0]))] H) (hD : va_D A [(h0, .inr (5, [.ref s0, .ref de, .ref kl, .ref tl, .ref cu, .ref hk, .ref ca, .int 0, .int 0, .int (-1), .int 0, .int 0])), (kl, .inr (2, [.ref kx, .ref ky, .int 0])), (tl, .inr (4, [.ref tx, .ref ty, .int 1])), (s0, .inr (3, [.ref a0, .ref a1, .ref a2, .ref a3, .ref a4, .ref a5, .ref a6, .int 0, .ref a7, .ref a8, .ref a9, .ref a10, .ref a11, .int 0])), (ou, .inl (C 2, 1, .inr (.inl fo))), (mo, .inr (9, [.int 0, .int 0, .ref g2, .ref g3, .ref g4, .ref g5, .ref g6, .ref g7, .ref g8, .ref g9, .ref g10, .ref g11, .ref g12, .ref g13, .ref g14, .ref g15, .ref g16, .ref g17, .ref g18, .ref g19, .int 0, .int 0, .ref g22, .int 0, .ref g24, .int 0, .int 0, .int (-1), .ref g28, .ref g29, .int 0, .int 0]))]) (hS : va_S A s.heap H locs) (hl : lv_has ls 7 [(4, .int 0), (3, .ref ou), (2, .ref mo), (1, .ref h0), (0, .ref b)]) : W p l e room_1 s m #[Value.ref b] below meth c H locs 254 111937 (lw_Z below #[Value.ref b] s) (F0 m 463 ls []) := by
  obtain ⟨hl0, hx, hb, hr, hml, hown, ht, hX, hbl, hlocks, hK, hE, hA, hAs, hbA⟩ := h
  have hAb := hAs
  refine lv_aload_n hx hb dL_law_463 rfl (lv_at hl 3 rfl) ?_
  refine lv_aload_n hx hb dL_law_464 rfl (lv_at hl 4 rfl) ?_
  refine lv_iload hx hb dL_law_465 (lv_at hl 0 rfl) ?_
  refine lv_iconst (v := 1) hx hb dL_law_467 (by decide) ?_
  refine lv_iadd hx hb dL_law_468 ?_
  refine lv_topi (fun x_1 ex_1 => ?_)
  obtain rfl : x_1 = (1 : Int32) := ex_1.trans (by decide)
  refine va_sld hx hb hX hbl hbA hS (by unfold vp_in; decide) dL_law_469 ?_
  refine lv_aload_n hx hb dL_law_470 rfl (lv_at hl 4 rfl) ?_
  refine lv_iload hx hb dL_law_471 (lv_at hl 0 rfl) ?_
  refine lv_iconst (v := 2) hx hb dL_law_473 (by decide) ?_
  refine lv_iadd hx hb dL_law_474 ?_
  refine lv_topi (fun x_2 ex_2 => ?_)
  obtain rfl : x_2 = (2 : Int32) := ex_2.trans (by decide)
  refine va_sld hx hb hX hbl hbA hS (by unfold vp_in; decide) dL_law_475 ?_
  refine lv_aload_n hx hb dL_law_476 rfl (lv_at hl 4 rfl) ?_
  refine lv_iload hx hb dL_law_477 (lv_at hl 0 rfl) ?_
  refine lv_iconst (v := 3) hx hb dL_law_479 (by decide) ?_
  refine lv_iadd hx hb dL_law_480 ?_
  refine lv_topi (fun x_3 ex_3 => ?_)
  obtain rfl : x_3 = (3 : Int32) := ex_3.trans (by decide)
  refine va_sld hx hb hX hbl hbA hS (by unfold vp_in; decide) dL_law_481 ?_
  refine lv_aload_n hx hb dL_law_482 rfl (lv_at hl 4 rfl) ?_
  refine lv_iload hx hb dL_law_483 (lv_at hl 0 rfl) ?_
  refine lv_iconst (v := 4) hx hb dL_law_485 (by decide) ?_
  refine lv_iadd hx hb dL_law_486 ?_
  refine lv_topi (fun x_4 ex_4 => ?_)
  obtain rfl : x_4 = (4 : Int32) := ex_4.trans (by decide)
  refine va_sld hx hb hX hbl hbA hS (by unfold vp_in; decide) dL_law_487 ?_
  refine lv_if_eq (tgt := 495) hx hb dL_law_488 (by decide) (fun c_488 => ?_) (fun c_488 => ?_)
  · skip
    refine lv_iconst (v := 0) hx hb dL_law_495 (by decide) ?_
    refine lv_aload_n hx hb dL_law_496 rfl (lv_at hl 1 rfl) ?_
    have hPc := hP.sub (ws' := [(h0, .inr (5, [.ref s0, .ref de, .ref kl, .ref tl, .ref cu, .ref hk, .ref ca, .int 0, .int 0, .int (-1), .int 0, .int 0])), (kl, .inr (2, [.ref kx, .ref ky, .int 0])), (tl, .inr (4, [.ref tx, .ref ty, .int 1])), (s0, .inr (3, [.ref a0, .ref a1, .ref a2, .ref a3, .ref a4, .ref a5, .ref a6, .int 0, .ref a7, .ref a8, .ref a9, .ref a10, .ref a11, .int 0])), (ou, .inl (C 2, 1, .inr (.inl fo)))]) [0, 1, 2, 3, 4] rfl
    have hDc := hD.sub (ws' := [(h0, .inr (5, [.ref s0, .ref de, .ref kl, .ref tl, .ref cu, .ref hk, .ref ca, .int 0, .int 0, .int (-1), .int 0, .int 0])), (kl, .inr (2, [.ref kx, .ref ky, .int 0])), (tl, .inr (4, [.ref tx, .ref ty, .int 1])), (s0, .inr (3, [.ref a0, .ref a1, .ref a2, .ref a3, .ref a4, .ref a5, .ref a6, .int 0, .ref a7, .ref a8, .ref a9, .ref a10, .ref a11, .int 0])), (ou, .inl (C 2, 1, .inr (.inl fo)))]) [0, 1, 2, 3, 4] (by decide) rfl
    have hFc := va_free (wc := [(h0, .inr (5, [.ref s0, .ref de, .ref kl, .ref tl, .ref cu, .ref hk, .ref ca, .int 0, .int 0, .int (-1), .int 0, .int 0])), (kl, .inr (2, [.ref kx, .ref ky, .int 0])), (tl, .inr (4, [.ref tx, .ref ty, .int 1])), (s0, .inr (3, [.ref a0, .ref a1, .ref a2, .ref a3, .ref a4, .ref a5, .ref a6, .int 0, .ref a7, .ref a8, .ref a9, .ref a10, .ref a11, .int 0])), (ou, .inl (C 2, 1, .inr (.inl fo)))]) hD hS hA [0, 1, 2, 3, 4] rfl
    refine va_calli (vx_runSW (As := [.ref h0, .int (xs (Int32.toNatClampNeg 1)), .int (xs (Int32.toNatClampNeg 2)), .int (xs (Int32.toNatClampNeg 3)), .int 0, .ref ou]) (rest := []) ⟨hx, hb, hml, hown, ht⟩ (kL_get l hl0 D C s.heap.size H.size h0 s0 de kl tl cu hk ca kx ky tx ty a0 a1 a2 a3 a4 a5 a6 a7 a8 a9 a10 a11 ((xs (Int32.toNatClampNeg 1))) ((xs (Int32.toNatClampNeg 2))) ((xs (Int32.toNatClampNeg 3))) 0 ou fo) (vx_cwSW 6 ht (xg_T m_585 m_586 m_558 m_474) rfl rfl rfl (by decide +kernel) ⟨Nat.le_of_ble_eq_true rfl, Nat.le_of_ble_eq_true rfl⟩) ⟨xPc_bl, xPc_at hPc hK hDc hE hS hAb⟩ rfl rfl hl.1 rfl (lv_room (Nat.le_of_ble_eq_true rfl)) dL_law_497 ⟨(by decide), (by decide)⟩) hS (fun q _ h => hFc q h) hFc (fun r_5 u_6 t H1 locs ht1 hvm hw hB hz1 hk1 hS => ?_)
    obtain ⟨hP1, hD1⟩ := hB
    rw [ht1] at hP1
    try dsimp only at hw
    obtain ⟨hP, hD⟩ := va_join (wr := [(mo, .inr (9, [.int 0, .int 0, .ref g2, .ref g3, .ref g4, .ref g5, .ref g6, .ref g7, .ref g8, .ref g9, .ref g10, .ref g11, .ref g12, .ref g13, .ref g14, .ref g15, .ref g16, .ref g17, .ref g18, .ref g19, .int 0, .int 0, .ref g22, .int 0, .ref g24, .int 0, .int 0, .int (-1), .ref g28, .ref g29, .int 0, .int 0]))]) (w1 := [(ou, .inl (C 2, 1, .inr (.inl (u_6))))]) hP hD [0, 1, 2, 3, 4] [5] rfl rfl (by decide) (by decide) hk1 hFc hP1 hD1
    generalize H1 = H at hP hS ⊢
    have hP : va_P D vwCl [(mo, .inr (9, [.int 0, .int 0, .ref g2, .ref g3, .ref g4, .ref g5, .ref g6, .ref g7, .ref g8, .ref g9, .ref g10, .ref g11, .ref g12, .ref g13, .ref g14, .ref g15, .ref g16, .ref g17, .ref g18, .ref g19, .int 0, .int 0, .ref g22, .int 0, .ref g24, .int 0, .int 0, .int (-1), .ref g28, .ref g29, .int 0, .int 0])), (ou, .inl (C 2, 1, .inr (.inl (u_6))))] H := hP
    have hD : va_D A [(mo, .inr (9, [.int 0, .int 0, .ref g2, .ref g3, .ref g4, .ref g5, .ref g6, .ref g7, .ref g8, .ref g9, .ref g10, .ref g11, .ref g12, .ref g13, .ref g14, .ref g15, .ref g16, .ref g17, .ref g18, .ref g19, .int 0, .int 0, .ref g22, .int 0, .ref g24, .int 0, .int 0, .int (-1), .ref g28, .ref g29, .int 0, .int 0])), (ou, .inl (C 2, 1, .inr (.inl (u_6))))] := hD
    have hq_497 := hw
    obtain rfl : r_5 = (1 : Int32) := hw
    refine W.widen (k := 257) (n := 111955) (by decide) (by decide) ?_
    refine lv_istore (lv' := [(5, .int 1), (4, .int 0), (3, .ref ou), (2, .ref mo), (1, .ref h0), (0, .ref b)]) hx hb dL_law_500 hl (by decide) rfl (fun ls hl => ?_)
    refine lv_aload_n hx hb dL_law_502 rfl (lv_at hl 3 rfl) ?_
    refine lv_aload_n hx hb dL_law_503 rfl (lv_at hl 5 rfl) ?_
    refine lv_iload hx hb dL_law_504 (lv_at hl 1 rfl) ?_
    refine lv_iconst (v := 1) hx hb dL_law_506 (by decide) ?_
    refine lv_iadd hx hb dL_law_507 ?_
    refine lv_topi (fun x_7 ex_7 => ?_)
    obtain rfl : x_7 = (1 : Int32) := ex_7.trans (by decide)
    refine va_sld hx hb hX hbl hbA hS (by unfold vp_in; decide) dL_law_508 ?_
    refine lv_aload_n hx hb dL_law_509 rfl (lv_at hl 5 rfl) ?_
    refine lv_iload hx hb dL_law_510 (lv_at hl 1 rfl) ?_
    refine lv_iconst (v := 2) hx hb dL_law_512 (by decide) ?_
    refine lv_iadd hx hb dL_law_513 ?_
    refine lv_topi (fun x_8 ex_8 => ?_)
    obtain rfl : x_8 = (2 : Int32) := ex_8.trans (by decide)
    refine va_sld hx hb hX hbl hbA hS (by unfold vp_in; decide) dL_law_514 ?_
    refine lv_aload_n hx hb dL_law_515 rfl (lv_at hl 5 rfl) ?_
    refine lv_iload hx hb dL_law_516 (lv_at hl 1 rfl) ?_
    refine lv_iconst (v := 3) hx hb dL_law_518 (by decide) ?_
    refine lv_iadd hx hb dL_law_519 ?_
    refine lv_topi (fun x_9 ex_9 => ?_)
    obtain rfl : x_9 = (3 : Int32) := ex_9.trans (by decide)
    refine va_sld hx hb hX hbl hbA hS (by unfold vp_in; decide) dL_law_520 ?_
    refine lv_aload_n hx hb dL_law_521 rfl (lv_at hl 5 rfl) ?_
    refine lv_iload hx hb dL_law_522 (lv_at hl 1 rfl) ?_
    refine lv_iconst (v := 4) hx hb dL_law_524 (by decide) ?_
    refine lv_iadd hx hb dL_law_525 ?_
    refine lv_topi (fun x_10 ex_10 => ?_)
    obtain rfl : x_10 = (4 : Int32) := ex_10.trans (by decide)
    refine va_sld hx hb hX hbl hbA hS (by unfold vp_in; decide) dL_law_526 ?_
    refine lv_if_eq (tgt := 534) hx hb dL_law_527 (by decide) (fun c_527 => ?_) (fun c_527 => ?_)
    · skip
      refine lv_iconst (v := 0) hx hb dL_law_534 (by decide) ?_
      have hPc := hP.sub (ws' := [(mo, .inr (9, [.int 0, .int 0, .ref g2, .ref g3, .ref g4, .ref g5, .ref g6, .ref g7, .ref g8, .ref g9, .ref g10, .ref g11, .ref g12, .ref g13, .ref g14, .ref g15, .ref g16, .ref g17, .ref g18, .ref g19, .int 0, .int 0, .ref g22, .int 0, .ref g24, .int 0, .int 0, .int (-1), .ref g28, .ref g29, .int 0, .int 0]))]) [0] rfl
      have hDc := hD.sub (ws' := [(mo, .inr (9, [.int 0, .int 0, .ref g2, .ref g3, .ref g4, .ref g5, .ref g6, .ref g7, .ref g8, .ref g9, .ref g10, .ref g11, .ref g12, .ref g13, .ref g14, .ref g15, .ref g16, .ref g17, .ref g18, .ref g19, .int 0, .int 0, .ref g22, .int 0, .ref g24, .int 0, .int 0, .int (-1), .ref g28, .ref g29, .int 0, .int 0]))]) [0] (by decide) rfl
      have hFc := va_free (wc := [(mo, .inr (9, [.int 0, .int 0, .ref g2, .ref g3, .ref g4, .ref g5, .ref g6, .ref g7, .ref g8, .ref g9, .ref g10, .ref g11, .ref g12, .ref g13, .ref g14, .ref g15, .ref g16, .ref g17, .ref g18, .ref g19, .int 0, .int 0, .ref g22, .int 0, .ref g24, .int 0, .int 0, .int (-1), .ref g28, .ref g29, .int 0, .int 0]))]) hD hS hA [0] rfl
      refine va_calli (vx_runVW (As := [.int (xs (Int32.toNatClampNeg 1)), .int (xs (Int32.toNatClampNeg 2)), .int (xs (Int32.toNatClampNeg 3)), .int 0]) (rest := []) ⟨hx, hb, hml, hown, ht⟩ (k9p_get l D C s.heap.size H.size mo g2 g3 g4 g5 g6 g7 g8 g9 g10 g11 g12 g13 g14 g15 g16 g17 g18 g19 g22 g24 g28 g29 ((xs (Int32.toNatClampNeg 1))) ((xs (Int32.toNatClampNeg 2))) ((xs (Int32.toNatClampNeg 3))) 0) (vx_cwVW 4 ht (xg_V m_587 m_588 m_589 m_391 m_230) rfl rfl rfl (by decide +kernel) ⟨Nat.le_of_ble_eq_true rfl, Nat.le_of_ble_eq_true rfl⟩) ⟨xPc_bl, va_recv hK hPc (ci := 9) (q0 := 0) rfl rfl, xPc_at hPc hK hDc hE hS hAb⟩ rfl rfl hl.1 rfl (lv_room (Nat.le_of_ble_eq_true rfl)) dL_law_535 ⟨(by decide), (by decide)⟩) hS (fun q _ h => hFc q h) hFc (fun r_11 u_12 t H1 locs ht1 hvm hw hB hz1 hk1 hS => ?_)
      obtain ⟨hP1, hD1⟩ := hB
      rw [ht1] at hP1
      try dsimp only at hw
      obtain ⟨hP, hD⟩ := va_join (wr := [(ou, .inl (C 2, 1, .inr (.inl (u_6))))]) (w1 := [(mo, .inr (9, [.int (u_12.2 0 0), .int (u_12.2 1 0), .ref g2, .ref g3, .ref g4, .ref g5, .ref g6, .ref g7, .ref g8, .ref g9, .ref g10, .ref g11, .ref g12, .ref g13, .ref g14, .ref g15, .ref g16, .ref g17, .ref g18, .ref g19, .int (u_12.2 2 0), .int (u_12.2 3 0), .ref g22, .int (u_12.2 4 0), .ref g24, .int (u_12.2 5 0), .int (u_12.2 6 0), .int (u_12.2 7 0), .ref g28, .ref g29, .int (u_12.2 8 0), .int (u_12.2 9 0)]))]) hP hD [0] [1] rfl rfl (by decide) (by decide) hk1 hFc hP1 hD1
      generalize H1 = H at hP hS ⊢
      have hP : va_P D vwCl [(ou, .inl (C 2, 1, .inr (.inl (u_6)))), (mo, .inr (9, [.int (u_12.2 0 0), .int (u_12.2 1 0), .ref g2, .ref g3, .ref g4, .ref g5, .ref g6, .ref g7, .ref g8, .ref g9, .ref g10, .ref g11, .ref g12, .ref g13, .ref g14, .ref g15, .ref g16, .ref g17, .ref g18, .ref g19, .int (u_12.2 2 0), .int (u_12.2 3 0), .ref g22, .int (u_12.2 4 0), .ref g24, .int (u_12.2 5 0), .int (u_12.2 6 0), .int (u_12.2 7 0), .ref g28, .ref g29, .int (u_12.2 8 0), .int (u_12.2 9 0)]))] H := hP
      have hD : va_D A [(ou, .inl (C 2, 1, .inr (.inl (u_6)))), (mo, .inr (9, [.int (u_12.2 0 0), .int (u_12.2 1 0), .ref g2, .ref g3, .ref g4, .ref g5, .ref g6, .ref g7, .ref g8, .ref g9, .ref g10, .ref g11, .ref g12, .ref g13, .ref g14, .ref g15, .ref g16, .ref g17, .ref g18, .ref g19, .int (u_12.2 2 0), .int (u_12.2 3 0), .ref g22, .int (u_12.2 4 0), .ref g24, .int (u_12.2 5 0), .int (u_12.2 6 0), .int (u_12.2 7 0), .ref g28, .ref g29, .int (u_12.2 8 0), .int (u_12.2 9 0)]))] := hD
      have hq_535 := hw
      refine W.widen (k := 258) (n := 111962) (by decide) (by decide) ?_
      refine lv_istore (lv' := [(6, .int r_11), (5, .int 1), (4, .int 0), (3, .ref ou), (2, .ref mo), (1, .ref h0), (0, .ref b)]) hx hb dL_law_538 hl (by decide) rfl (fun ls hl => ?_)
      refine lv_aload_n hx hb dL_law_540 rfl (lv_at hl 4 rfl) ?_
      have hPc := hP.sub (ws' := [(mo, .inr (9, [.int (u_12.2 0 0), .int (u_12.2 1 0), .ref g2, .ref g3, .ref g4, .ref g5, .ref g6, .ref g7, .ref g8, .ref g9, .ref g10, .ref g11, .ref g12, .ref g13, .ref g14, .ref g15, .ref g16, .ref g17, .ref g18, .ref g19, .int (u_12.2 2 0), .int (u_12.2 3 0), .ref g22, .int (u_12.2 4 0), .ref g24, .int (u_12.2 5 0), .int (u_12.2 6 0), .int (u_12.2 7 0), .ref g28, .ref g29, .int (u_12.2 8 0), .int (u_12.2 9 0)]))]) [1] rfl
      have hDc := hD.sub (ws' := [(mo, .inr (9, [.int (u_12.2 0 0), .int (u_12.2 1 0), .ref g2, .ref g3, .ref g4, .ref g5, .ref g6, .ref g7, .ref g8, .ref g9, .ref g10, .ref g11, .ref g12, .ref g13, .ref g14, .ref g15, .ref g16, .ref g17, .ref g18, .ref g19, .int (u_12.2 2 0), .int (u_12.2 3 0), .ref g22, .int (u_12.2 4 0), .ref g24, .int (u_12.2 5 0), .int (u_12.2 6 0), .int (u_12.2 7 0), .ref g28, .ref g29, .int (u_12.2 8 0), .int (u_12.2 9 0)]))]) [1] (by decide) rfl
      have hFc := va_free (wc := [(mo, .inr (9, [.int (u_12.2 0 0), .int (u_12.2 1 0), .ref g2, .ref g3, .ref g4, .ref g5, .ref g6, .ref g7, .ref g8, .ref g9, .ref g10, .ref g11, .ref g12, .ref g13, .ref g14, .ref g15, .ref g16, .ref g17, .ref g18, .ref g19, .int (u_12.2 2 0), .int (u_12.2 3 0), .ref g22, .int (u_12.2 4 0), .ref g24, .int (u_12.2 5 0), .int (u_12.2 6 0), .int (u_12.2 7 0), .ref g28, .ref g29, .int (u_12.2 8 0), .int (u_12.2 9 0)]))]) hD hS hA [1] rfl
      refine va_calli (va_runV (As := []) (rest := []) ⟨hx, hb, hml, hown, ht⟩ (k9_thrown l D C s.heap.size H.size mo g2 g3 g4 g5 g6 g7 g8 g9 g10 g11 g12 g13 g14 g15 g16 g17 g18 g19 g22 g24 g28 g29 (u_12.2 0 0) (u_12.2 1 0) (u_12.2 2 0) (u_12.2 3 0) (u_12.2 4 0) (u_12.2 5 0) (u_12.2 6 0) (u_12.2 7 0) (u_12.2 8 0) (u_12.2 9 0)) (cwV 0 ht (xg_V m_562 m_563 m_564 m_391 m_221) rfl rfl rfl (by decide +kernel) ⟨Nat.le_of_ble_eq_true rfl, Nat.le_of_ble_eq_true rfl⟩) ⟨xPc_bl, va_recv hK hPc (ci := 9) (q0 := 0) rfl rfl, xPc_at hPc hK hDc hE hS hAb⟩ rfl rfl hl.1 rfl (lv_room (Nat.le_of_ble_eq_true rfl)) dL_law_541 ⟨(by decide), (by decide)⟩) hS (fun q _ h => hFc q h) hFc (fun r_13 u_14 t H1 locs ht1 hvm hw hB hz1 hk1 hS => ?_)
      obtain ⟨hP1, hD1⟩ := hB
      rw [ht1] at hP1
      try dsimp only at hw
      obtain ⟨hP, hD⟩ := va_join (wr := [(ou, .inl (C 2, 1, .inr (.inl (u_6))))]) (w1 := [(mo, .inr (9, [.int (u_12.2 0 0), .int (u_12.2 1 0), .ref g2, .ref g3, .ref g4, .ref g5, .ref g6, .ref g7, .ref g8, .ref g9, .ref g10, .ref g11, .ref g12, .ref g13, .ref g14, .ref g15, .ref g16, .ref g17, .ref g18, .ref g19, .int (u_12.2 2 0), .int (u_12.2 3 0), .ref g22, .int (u_12.2 4 0), .ref g24, .int (u_12.2 5 0), .int (u_12.2 6 0), .int (u_12.2 7 0), .ref g28, .ref g29, .int (u_12.2 8 0), .int (u_12.2 9 0)]))]) hP hD [1] [0] rfl rfl (by decide) (by decide) hk1 hFc hP1 hD1
      generalize H1 = H at hP hS ⊢
      have hP : va_P D vwCl [(ou, .inl (C 2, 1, .inr (.inl (u_6)))), (mo, .inr (9, [.int (u_12.2 0 0), .int (u_12.2 1 0), .ref g2, .ref g3, .ref g4, .ref g5, .ref g6, .ref g7, .ref g8, .ref g9, .ref g10, .ref g11, .ref g12, .ref g13, .ref g14, .ref g15, .ref g16, .ref g17, .ref g18, .ref g19, .int (u_12.2 2 0), .int (u_12.2 3 0), .ref g22, .int (u_12.2 4 0), .ref g24, .int (u_12.2 5 0), .int (u_12.2 6 0), .int (u_12.2 7 0), .ref g28, .ref g29, .int (u_12.2 8 0), .int (u_12.2 9 0)]))] H := hP
      have hD : va_D A [(ou, .inl (C 2, 1, .inr (.inl (u_6)))), (mo, .inr (9, [.int (u_12.2 0 0), .int (u_12.2 1 0), .ref g2, .ref g3, .ref g4, .ref g5, .ref g6, .ref g7, .ref g8, .ref g9, .ref g10, .ref g11, .ref g12, .ref g13, .ref g14, .ref g15, .ref g16, .ref g17, .ref g18, .ref g19, .int (u_12.2 2 0), .int (u_12.2 3 0), .ref g22, .int (u_12.2 4 0), .ref g24, .int (u_12.2 5 0), .int (u_12.2 6 0), .int (u_12.2 7 0), .ref g28, .ref g29, .int (u_12.2 8 0), .int (u_12.2 9 0)]))] := hD
      have hq_541 := hw
      obtain rfl : r_13 = (1 : Int32) := hw.trans hq_535
      refine lv_iload hx hb dL_law_544 (lv_at hl 1 rfl) ?_
      refine lv_icmp_eq (tgt := 551) hx hb dL_law_546 (by decide) (fun c_546 => ?_) (fun c_546 => ?_)
      rotate_left
      · exact absurd c_546 (by decide)
      refine lv_iload hx hb dL_law_551 (lv_at hl 1 rfl) ?_
      refine lv_if_ne (tgt := 568) hx hb dL_law_553 (by decide) (fun c_553 => ?_) (fun c_553 => ?_)
      rotate_left
      · exact absurd c_553 (by decide)
      refine lv_goto (tgt := 1732) hx hb dL_law_568 (by decide) ?_
      exact lc_end ⟨hl0, hx, hb, hr, hml, hown, ht, hX, hbl, hlocks, hK, hE, hA, hAs, hbA⟩ (by decide) (by decide) hS (lv_sub hl [2, 6] rfl)
    · skip
      refine lv_iconst (v := 1) hx hb dL_law_530 (by decide) ?_
      refine lv_goto (tgt := 535) hx hb dL_law_531 (by decide) ?_
      have hPc := hP.sub (ws' := [(mo, .inr (9, [.int 0, .int 0, .ref g2, .ref g3, .ref g4, .ref g5, .ref g6, .ref g7, .ref g8, .ref g9, .ref g10, .ref g11, .ref g12, .ref g13, .ref g14, .ref g15, .ref g16, .ref g17, .ref g18, .ref g19, .int 0, .int 0, .ref g22, .int 0, .ref g24, .int 0, .int 0, .int (-1), .ref g28, .ref g29, .int 0, .int 0]))]) [0] rfl
      have hDc := hD.sub (ws' := [(mo, .inr (9, [.int 0, .int 0, .ref g2, .ref g3, .ref g4, .ref g5, .ref g6, .ref g7, .ref g8, .ref g9, .ref g10, .ref g11, .ref g12, .ref g13, .ref g14, .ref g15, .ref g16, .ref g17, .ref g18, .ref g19, .int 0, .int 0, .ref g22, .int 0, .ref g24, .int 0, .int 0, .int (-1), .ref g28, .ref g29, .int 0, .int 0]))]) [0] (by decide) rfl
      have hFc := va_free (wc := [(mo, .inr (9, [.int 0, .int 0, .ref g2, .ref g3, .ref g4, .ref g5, .ref g6, .ref g7, .ref g8, .ref g9, .ref g10, .ref g11, .ref g12, .ref g13, .ref g14, .ref g15, .ref g16, .ref g17, .ref g18, .ref g19, .int 0, .int 0, .ref g22, .int 0, .ref g24, .int 0, .int 0, .int (-1), .ref g28, .ref g29, .int 0, .int 0]))]) hD hS hA [0] rfl
      refine va_calli (vx_runVW (As := [.int (xs (Int32.toNatClampNeg 1)), .int (xs (Int32.toNatClampNeg 2)), .int (xs (Int32.toNatClampNeg 3)), .int 1]) (rest := []) ⟨hx, hb, hml, hown, ht⟩ (k9p_get l D C s.heap.size H.size mo g2 g3 g4 g5 g6 g7 g8 g9 g10 g11 g12 g13 g14 g15 g16 g17 g18 g19 g22 g24 g28 g29 ((xs (Int32.toNatClampNeg 1))) ((xs (Int32.toNatClampNeg 2))) ((xs (Int32.toNatClampNeg 3))) 1) (vx_cwVW 4 ht (xg_V m_587 m_588 m_589 m_391 m_230) rfl rfl rfl (by decide +kernel) ⟨Nat.le_of_ble_eq_true rfl, Nat.le_of_ble_eq_true rfl⟩) ⟨xPc_bl, va_recv hK hPc (ci := 9) (q0 := 0) rfl rfl, xPc_at hPc hK hDc hE hS hAb⟩ rfl rfl hl.1 rfl (lv_room (Nat.le_of_ble_eq_true rfl)) dL_law_535 ⟨(by decide), (by decide)⟩) hS (fun q _ h => hFc q h) hFc (fun r_15 u_16 t H1 locs ht1 hvm hw hB hz1 hk1 hS => ?_)
      obtain ⟨hP1, hD1⟩ := hB
      rw [ht1] at hP1
      try dsimp only at hw
      obtain ⟨hP, hD⟩ := va_join (wr := [(ou, .inl (C 2, 1, .inr (.inl (u_6))))]) (w1 := [(mo, .inr (9, [.int (u_16.2 0 0), .int (u_16.2 1 0), .ref g2, .ref g3, .ref g4, .ref g5, .ref g6, .ref g7, .ref g8, .ref g9, .ref g10, .ref g11, .ref g12, .ref g13, .ref g14, .ref g15, .ref g16, .ref g17, .ref g18, .ref g19, .int (u_16.2 2 0), .int (u_16.2 3 0), .ref g22, .int (u_16.2 4 0), .ref g24, .int (u_16.2 5 0), .int (u_16.2 6 0), .int (u_16.2 7 0), .ref g28, .ref g29, .int (u_16.2 8 0), .int (u_16.2 9 0)]))]) hP hD [0] [1] rfl rfl (by decide) (by decide) hk1 hFc hP1 hD1
      generalize H1 = H at hP hS ⊢
      have hP : va_P D vwCl [(ou, .inl (C 2, 1, .inr (.inl (u_6)))), (mo, .inr (9, [.int (u_16.2 0 0), .int (u_16.2 1 0), .ref g2, .ref g3, .ref g4, .ref g5, .ref g6, .ref g7, .ref g8, .ref g9, .ref g10, .ref g11, .ref g12, .ref g13, .ref g14, .ref g15, .ref g16, .ref g17, .ref g18, .ref g19, .int (u_16.2 2 0), .int (u_16.2 3 0), .ref g22, .int (u_16.2 4 0), .ref g24, .int (u_16.2 5 0), .int (u_16.2 6 0), .int (u_16.2 7 0), .ref g28, .ref g29, .int (u_16.2 8 0), .int (u_16.2 9 0)]))] H := hP
      have hD : va_D A [(ou, .inl (C 2, 1, .inr (.inl (u_6)))), (mo, .inr (9, [.int (u_16.2 0 0), .int (u_16.2 1 0), .ref g2, .ref g3, .ref g4, .ref g5, .ref g6, .ref g7, .ref g8, .ref g9, .ref g10, .ref g11, .ref g12, .ref g13, .ref g14, .ref g15, .ref g16, .ref g17, .ref g18, .ref g19, .int (u_16.2 2 0), .int (u_16.2 3 0), .ref g22, .int (u_16.2 4 0), .ref g24, .int (u_16.2 5 0), .int (u_16.2 6 0), .int (u_16.2 7 0), .ref g28, .ref g29, .int (u_16.2 8 0), .int (u_16.2 9 0)]))] := hD
      have hq_535 := hw
      refine W.widen (k := 258) (n := 111962) (by decide) (by decide) ?_
      refine lv_istore (lv' := [(6, .int r_15), (5, .int 1), (4, .int 0), (3, .ref ou), (2, .ref mo), (1, .ref h0), (0, .ref b)]) hx hb dL_law_538 hl (by decide) rfl (fun ls hl => ?_)
      refine lv_aload_n hx hb dL_law_540 rfl (lv_at hl 4 rfl) ?_
      have hPc := hP.sub (ws' := [(mo, .inr (9, [.int (u_16.2 0 0), .int (u_16.2 1 0), .ref g2, .ref g3, .ref g4, .ref g5, .ref g6, .ref g7, .ref g8, .ref g9, .ref g10, .ref g11, .ref g12, .ref g13, .ref g14, .ref g15, .ref g16, .ref g17, .ref g18, .ref g19, .int (u_16.2 2 0), .int (u_16.2 3 0), .ref g22, .int (u_16.2 4 0), .ref g24, .int (u_16.2 5 0), .int (u_16.2 6 0), .int (u_16.2 7 0), .ref g28, .ref g29, .int (u_16.2 8 0), .int (u_16.2 9 0)]))]) [1] rfl
      have hDc := hD.sub (ws' := [(mo, .inr (9, [.int (u_16.2 0 0), .int (u_16.2 1 0), .ref g2, .ref g3, .ref g4, .ref g5, .ref g6, .ref g7, .ref g8, .ref g9, .ref g10, .ref g11, .ref g12, .ref g13, .ref g14, .ref g15, .ref g16, .ref g17, .ref g18, .ref g19, .int (u_16.2 2 0), .int (u_16.2 3 0), .ref g22, .int (u_16.2 4 0), .ref g24, .int (u_16.2 5 0), .int (u_16.2 6 0), .int (u_16.2 7 0), .ref g28, .ref g29, .int (u_16.2 8 0), .int (u_16.2 9 0)]))]) [1] (by decide) rfl
      have hFc := va_free (wc := [(mo, .inr (9, [.int (u_16.2 0 0), .int (u_16.2 1 0), .ref g2, .ref g3, .ref g4, .ref g5, .ref g6, .ref g7, .ref g8, .ref g9, .ref g10, .ref g11, .ref g12, .ref g13, .ref g14, .ref g15, .ref g16, .ref g17, .ref g18, .ref g19, .int (u_16.2 2 0), .int (u_16.2 3 0), .ref g22, .int (u_16.2 4 0), .ref g24, .int (u_16.2 5 0), .int (u_16.2 6 0), .int (u_16.2 7 0), .ref g28, .ref g29, .int (u_16.2 8 0), .int (u_16.2 9 0)]))]) hD hS hA [1] rfl
      refine va_calli (va_runV (As := []) (rest := []) ⟨hx, hb, hml, hown, ht⟩ (k9_thrown l D C s.heap.size H.size mo g2 g3 g4 g5 g6 g7 g8 g9 g10 g11 g12 g13 g14 g15 g16 g17 g18 g19 g22 g24 g28 g29 (u_16.2 0 0) (u_16.2 1 0) (u_16.2 2 0) (u_16.2 3 0) (u_16.2 4 0) (u_16.2 5 0) (u_16.2 6 0) (u_16.2 7 0) (u_16.2 8 0) (u_16.2 9 0)) (cwV 0 ht (xg_V m_562 m_563 m_564 m_391 m_221) rfl rfl rfl (by decide +kernel) ⟨Nat.le_of_ble_eq_true rfl, Nat.le_of_ble_eq_true rfl⟩) ⟨xPc_bl, va_recv hK hPc (ci := 9) (q0 := 0) rfl rfl, xPc_at hPc hK hDc hE hS hAb⟩ rfl rfl hl.1 rfl (lv_room (Nat.le_of_ble_eq_true rfl)) dL_law_541 ⟨(by decide), (by decide)⟩) hS (fun q _ h => hFc q h) hFc (fun r_17 u_18 t H1 locs ht1 hvm hw hB hz1 hk1 hS => ?_)
      obtain ⟨hP1, hD1⟩ := hB
      rw [ht1] at hP1
      try dsimp only at hw
      obtain ⟨hP, hD⟩ := va_join (wr := [(ou, .inl (C 2, 1, .inr (.inl (u_6))))]) (w1 := [(mo, .inr (9, [.int (u_16.2 0 0), .int (u_16.2 1 0), .ref g2, .ref g3, .ref g4, .ref g5, .ref g6, .ref g7, .ref g8, .ref g9, .ref g10, .ref g11, .ref g12, .ref g13, .ref g14, .ref g15, .ref g16, .ref g17, .ref g18, .ref g19, .int (u_16.2 2 0), .int (u_16.2 3 0), .ref g22, .int (u_16.2 4 0), .ref g24, .int (u_16.2 5 0), .int (u_16.2 6 0), .int (u_16.2 7 0), .ref g28, .ref g29, .int (u_16.2 8 0), .int (u_16.2 9 0)]))]) hP hD [1] [0] rfl rfl (by decide) (by decide) hk1 hFc hP1 hD1
      generalize H1 = H at hP hS ⊢
      have hP : va_P D vwCl [(ou, .inl (C 2, 1, .inr (.inl (u_6)))), (mo, .inr (9, [.int (u_16.2 0 0), .int (u_16.2 1 0), .ref g2, .ref g3, .ref g4, .ref g5, .ref g6, .ref g7, .ref g8, .ref g9, .ref g10, .ref g11, .ref g12, .ref g13, .ref g14, .ref g15, .ref g16, .ref g17, .ref g18, .ref g19, .int (u_16.2 2 0), .int (u_16.2 3 0), .ref g22, .int (u_16.2 4 0), .ref g24, .int (u_16.2 5 0), .int (u_16.2 6 0), .int (u_16.2 7 0), .ref g28, .ref g29, .int (u_16.2 8 0), .int (u_16.2 9 0)]))] H := hP
      have hD : va_D A [(ou, .inl (C 2, 1, .inr (.inl (u_6)))), (mo, .inr (9, [.int (u_16.2 0 0), .int (u_16.2 1 0), .ref g2, .ref g3, .ref g4, .ref g5, .ref g6, .ref g7, .ref g8, .ref g9, .ref g10, .ref g11, .ref g12, .ref g13, .ref g14, .ref g15, .ref g16, .ref g17, .ref g18, .ref g19, .int (u_16.2 2 0), .int (u_16.2 3 0), .ref g22, .int (u_16.2 4 0), .ref g24, .int (u_16.2 5 0), .int (u_16.2 6 0), .int (u_16.2 7 0), .ref g28, .ref g29, .int (u_16.2 8 0), .int (u_16.2 9 0)]))] := hD
      have hq_541 := hw
      obtain rfl : r_17 = (1 : Int32) := hw.trans hq_535
      refine lv_iload hx hb dL_law_544 (lv_at hl 1 rfl) ?_
      refine lv_icmp_eq (tgt := 551) hx hb dL_law_546 (by decide) (fun c_546 => ?_) (fun c_546 => ?_)
      rotate_left
      · exact absurd c_546 (by decide)
      refine lv_iload hx hb dL_law_551 (lv_at hl 1 rfl) ?_
      refine lv_if_ne (tgt := 568) hx hb dL_law_553 (by decide) (fun c_553 => ?_) (fun c_553 => ?_)
      rotate_left
      · exact absurd c_553 (by decide)
      refine lv_goto (tgt := 1732) hx hb dL_law_568 (by decide) ?_
      exact lc_end ⟨hl0, hx, hb, hr, hml, hown, ht, hX, hbl, hlocks, hK, hE, hA, hAs, hbA⟩ (by decide) (by decide) hS (lv_sub hl [2, 6] rfl)
  · skip
    refine lv_iconst (v := 1) hx hb dL_law_491 (by decide) ?_
    refine lv_goto (tgt := 496) hx hb dL_law_492 (by decide) ?_
    refine lv_aload_n hx hb dL_law_496 rfl (lv_at hl 1 rfl) ?_
    have hPc := hP.sub (ws' := [(h0, .inr (5, [.ref s0, .ref de, .ref kl, .ref tl, .ref cu, .ref hk, .ref ca, .int 0, .int 0, .int (-1), .int 0, .int 0])), (kl, .inr (2, [.ref kx, .ref ky, .int 0])), (tl, .inr (4, [.ref tx, .ref ty, .int 1])), (s0, .inr (3, [.ref a0, .ref a1, .ref a2, .ref a3, .ref a4, .ref a5, .ref a6, .int 0, .ref a7, .ref a8, .ref a9, .ref a10, .ref a11, .int 0])), (ou, .inl (C 2, 1, .inr (.inl fo)))]) [0, 1, 2, 3, 4] rfl
    have hDc := hD.sub (ws' := [(h0, .inr (5, [.ref s0, .ref de, .ref kl, .ref tl, .ref cu, .ref hk, .ref ca, .int 0, .int 0, .int (-1), .int 0, .int 0])), (kl, .inr (2, [.ref kx, .ref ky, .int 0])), (tl, .inr (4, [.ref tx, .ref ty, .int 1])), (s0, .inr (3, [.ref a0, .ref a1, .ref a2, .ref a3, .ref a4, .ref a5, .ref a6, .int 0, .ref a7, .ref a8, .ref a9, .ref a10, .ref a11, .int 0])), (ou, .inl (C 2, 1, .inr (.inl fo)))]) [0, 1, 2, 3, 4] (by decide) rfl
    have hFc := va_free (wc := [(h0, .inr (5, [.ref s0, .ref de, .ref kl, .ref tl, .ref cu, .ref hk, .ref ca, .int 0, .int 0, .int (-1), .int 0, .int 0])), (kl, .inr (2, [.ref kx, .ref ky, .int 0])), (tl, .inr (4, [.ref tx, .ref ty, .int 1])), (s0, .inr (3, [.ref a0, .ref a1, .ref a2, .ref a3, .ref a4, .ref a5, .ref a6, .int 0, .ref a7, .ref a8, .ref a9, .ref a10, .ref a11, .int 0])), (ou, .inl (C 2, 1, .inr (.inl fo)))]) hD hS hA [0, 1, 2, 3, 4] rfl
    refine va_calli (vx_runSW (As := [.ref h0, .int (xs (Int32.toNatClampNeg 1)), .int (xs (Int32.toNatClampNeg 2)), .int (xs (Int32.toNatClampNeg 3)), .int 1, .ref ou]) (rest := []) ⟨hx, hb, hml, hown, ht⟩ (kL_get l hl0 D C s.heap.size H.size h0 s0 de kl tl cu hk ca kx ky tx ty a0 a1 a2 a3 a4 a5 a6 a7 a8 a9 a10 a11 ((xs (Int32.toNatClampNeg 1))) ((xs (Int32.toNatClampNeg 2))) ((xs (Int32.toNatClampNeg 3))) 1 ou fo) (vx_cwSW 6 ht (xg_T m_585 m_586 m_558 m_474) rfl rfl rfl (by decide +kernel) ⟨Nat.le_of_ble_eq_true rfl, Nat.le_of_ble_eq_true rfl⟩) ⟨xPc_bl, xPc_at hPc hK hDc hE hS hAb⟩ rfl rfl hl.1 rfl (lv_room (Nat.le_of_ble_eq_true rfl)) dL_law_497 ⟨(by decide), (by decide)⟩) hS (fun q _ h => hFc q h) hFc (fun r_19 u_20 t H1 locs ht1 hvm hw hB hz1 hk1 hS => ?_)
    obtain ⟨hP1, hD1⟩ := hB
    rw [ht1] at hP1
    try dsimp only at hw
    obtain ⟨hP, hD⟩ := va_join (wr := [(mo, .inr (9, [.int 0, .int 0, .ref g2, .ref g3, .ref g4, .ref g5, .ref g6, .ref g7, .ref g8, .ref g9, .ref g10, .ref g11, .ref g12, .ref g13, .ref g14, .ref g15, .ref g16, .ref g17, .ref g18, .ref g19, .int 0, .int 0, .ref g22, .int 0, .ref g24, .int 0, .int 0, .int (-1), .ref g28, .ref g29, .int 0, .int 0]))]) (w1 := [(ou, .inl (C 2, 1, .inr (.inl (u_20))))]) hP hD [0, 1, 2, 3, 4] [5] rfl rfl (by decide) (by decide) hk1 hFc hP1 hD1
    generalize H1 = H at hP hS ⊢
    have hP : va_P D vwCl [(mo, .inr (9, [.int 0, .int 0, .ref g2, .ref g3, .ref g4, .ref g5, .ref g6, .ref g7, .ref g8, .ref g9, .ref g10, .ref g11, .ref g12, .ref g13, .ref g14, .ref g15, .ref g16, .ref g17, .ref g18, .ref g19, .int 0, .int 0, .ref g22, .int 0, .ref g24, .int 0, .int 0, .int (-1), .ref g28, .ref g29, .int 0, .int 0])), (ou, .inl (C 2, 1, .inr (.inl (u_20))))] H := hP
    have hD : va_D A [(mo, .inr (9, [.int 0, .int 0, .ref g2, .ref g3, .ref g4, .ref g5, .ref g6, .ref g7, .ref g8, .ref g9, .ref g10, .ref g11, .ref g12, .ref g13, .ref g14, .ref g15, .ref g16, .ref g17, .ref g18, .ref g19, .int 0, .int 0, .ref g22, .int 0, .ref g24, .int 0, .int 0, .int (-1), .ref g28, .ref g29, .int 0, .int 0])), (ou, .inl (C 2, 1, .inr (.inl (u_20))))] := hD
    have hq_497 := hw
    obtain rfl : r_19 = (1 : Int32) := hw
    refine W.widen (k := 257) (n := 111955) (by decide) (by decide) ?_
    refine lv_istore (lv' := [(5, .int 1), (4, .int 0), (3, .ref ou), (2, .ref mo), (1, .ref h0), (0, .ref b)]) hx hb dL_law_500 hl (by decide) rfl (fun ls hl => ?_)
    refine lv_aload_n hx hb dL_law_502 rfl (lv_at hl 3 rfl) ?_
    refine lv_aload_n hx hb dL_law_503 rfl (lv_at hl 5 rfl) ?_
    refine lv_iload hx hb dL_law_504 (lv_at hl 1 rfl) ?_
    refine lv_iconst (v := 1) hx hb dL_law_506 (by decide) ?_
    refine lv_iadd hx hb dL_law_507 ?_
    refine lv_topi (fun x_21 ex_21 => ?_)
    obtain rfl : x_21 = (1 : Int32) := ex_21.trans (by decide)
    refine va_sld hx hb hX hbl hbA hS (by unfold vp_in; decide) dL_law_508 ?_
    refine lv_aload_n hx hb dL_law_509 rfl (lv_at hl 5 rfl) ?_
    refine lv_iload hx hb dL_law_510 (lv_at hl 1 rfl) ?_
    refine lv_iconst (v := 2) hx hb dL_law_512 (by decide) ?_
    refine lv_iadd hx hb dL_law_513 ?_
    refine lv_topi (fun x_22 ex_22 => ?_)
    obtain rfl : x_22 = (2 : Int32) := ex_22.trans (by decide)
    refine va_sld hx hb hX hbl hbA hS (by unfold vp_in; decide) dL_law_514 ?_
    refine lv_aload_n hx hb dL_law_515 rfl (lv_at hl 5 rfl) ?_
    refine lv_iload hx hb dL_law_516 (lv_at hl 1 rfl) ?_
    refine lv_iconst (v := 3) hx hb dL_law_518 (by decide) ?_
    refine lv_iadd hx hb dL_law_519 ?_
    refine lv_topi (fun x_23 ex_23 => ?_)
    obtain rfl : x_23 = (3 : Int32) := ex_23.trans (by decide)
    refine va_sld hx hb hX hbl hbA hS (by unfold vp_in; decide) dL_law_520 ?_
    refine lv_aload_n hx hb dL_law_521 rfl (lv_at hl 5 rfl) ?_
    refine lv_iload hx hb dL_law_522 (lv_at hl 1 rfl) ?_
    refine lv_iconst (v := 4) hx hb dL_law_524 (by decide) ?_
    refine lv_iadd hx hb dL_law_525 ?_
    refine lv_topi (fun x_24 ex_24 => ?_)
    obtain rfl : x_24 = (4 : Int32) := ex_24.trans (by decide)
    refine va_sld hx hb hX hbl hbA hS (by unfold vp_in; decide) dL_law_526 ?_
    refine lv_if_eq (tgt := 534) hx hb dL_law_527 (by decide) (fun c_527 => ?_) (fun c_527 => ?_)
    · skip
      refine lv_iconst (v := 0) hx hb dL_law_534 (by decide) ?_
      have hPc := hP.sub (ws' := [(mo, .inr (9, [.int 0, .int 0, .ref g2, .ref g3, .ref g4, .ref g5, .ref g6, .ref g7, .ref g8, .ref g9, .ref g10, .ref g11, .ref g12, .ref g13, .ref g14, .ref g15, .ref g16, .ref g17, .ref g18, .ref g19, .int 0, .int 0, .ref g22, .int 0, .ref g24, .int 0, .int 0, .int (-1), .ref g28, .ref g29, .int 0, .int 0]))]) [0] rfl
      have hDc := hD.sub (ws' := [(mo, .inr (9, [.int 0, .int 0, .ref g2, .ref g3, .ref g4, .ref g5, .ref g6, .ref g7, .ref g8, .ref g9, .ref g10, .ref g11, .ref g12, .ref g13, .ref g14, .ref g15, .ref g16, .ref g17, .ref g18, .ref g19, .int 0, .int 0, .ref g22, .int 0, .ref g24, .int 0, .int 0, .int (-1), .ref g28, .ref g29, .int 0, .int 0]))]) [0] (by decide) rfl
      have hFc := va_free (wc := [(mo, .inr (9, [.int 0, .int 0, .ref g2, .ref g3, .ref g4, .ref g5, .ref g6, .ref g7, .ref g8, .ref g9, .ref g10, .ref g11, .ref g12, .ref g13, .ref g14, .ref g15, .ref g16, .ref g17, .ref g18, .ref g19, .int 0, .int 0, .ref g22, .int 0, .ref g24, .int 0, .int 0, .int (-1), .ref g28, .ref g29, .int 0, .int 0]))]) hD hS hA [0] rfl
      refine va_calli (vx_runVW (As := [.int (xs (Int32.toNatClampNeg 1)), .int (xs (Int32.toNatClampNeg 2)), .int (xs (Int32.toNatClampNeg 3)), .int 0]) (rest := []) ⟨hx, hb, hml, hown, ht⟩ (k9p_get l D C s.heap.size H.size mo g2 g3 g4 g5 g6 g7 g8 g9 g10 g11 g12 g13 g14 g15 g16 g17 g18 g19 g22 g24 g28 g29 ((xs (Int32.toNatClampNeg 1))) ((xs (Int32.toNatClampNeg 2))) ((xs (Int32.toNatClampNeg 3))) 0) (vx_cwVW 4 ht (xg_V m_587 m_588 m_589 m_391 m_230) rfl rfl rfl (by decide +kernel) ⟨Nat.le_of_ble_eq_true rfl, Nat.le_of_ble_eq_true rfl⟩) ⟨xPc_bl, va_recv hK hPc (ci := 9) (q0 := 0) rfl rfl, xPc_at hPc hK hDc hE hS hAb⟩ rfl rfl hl.1 rfl (lv_room (Nat.le_of_ble_eq_true rfl)) dL_law_535 ⟨(by decide), (by decide)⟩) hS (fun q _ h => hFc q h) hFc (fun r_25 u_26 t H1 locs ht1 hvm hw hB hz1 hk1 hS => ?_)
      obtain ⟨hP1, hD1⟩ := hB
      rw [ht1] at hP1
      try dsimp only at hw
      obtain ⟨hP, hD⟩ := va_join (wr := [(ou, .inl (C 2, 1, .inr (.inl (u_20))))]) (w1 := [(mo, .inr (9, [.int (u_26.2 0 0), .int (u_26.2 1 0), .ref g2, .ref g3, .ref g4, .ref g5, .ref g6, .ref g7, .ref g8, .ref g9, .ref g10, .ref g11, .ref g12, .ref g13, .ref g14, .ref g15, .ref g16, .ref g17, .ref g18, .ref g19, .int (u_26.2 2 0), .int (u_26.2 3 0), .ref g22, .int (u_26.2 4 0), .ref g24, .int (u_26.2 5 0), .int (u_26.2 6 0), .int (u_26.2 7 0), .ref g28, .ref g29, .int (u_26.2 8 0), .int (u_26.2 9 0)]))]) hP hD [0] [1] rfl rfl (by decide) (by decide) hk1 hFc hP1 hD1
      generalize H1 = H at hP hS ⊢
      have hP : va_P D vwCl [(ou, .inl (C 2, 1, .inr (.inl (u_20)))), (mo, .inr (9, [.int (u_26.2 0 0), .int (u_26.2 1 0), .ref g2, .ref g3, .ref g4, .ref g5, .ref g6, .ref g7, .ref g8, .ref g9, .ref g10, .ref g11, .ref g12, .ref g13, .ref g14, .ref g15, .ref g16, .ref g17, .ref g18, .ref g19, .int (u_26.2 2 0), .int (u_26.2 3 0), .ref g22, .int (u_26.2 4 0), .ref g24, .int (u_26.2 5 0), .int (u_26.2 6 0), .int (u_26.2 7 0), .ref g28, .ref g29, .int (u_26.2 8 0), .int (u_26.2 9 0)]))] H := hP
      have hD : va_D A [(ou, .inl (C 2, 1, .inr (.inl (u_20)))), (mo, .inr (9, [.int (u_26.2 0 0), .int (u_26.2 1 0), .ref g2, .ref g3, .ref g4, .ref g5, .ref g6, .ref g7, .ref g8, .ref g9, .ref g10, .ref g11, .ref g12, .ref g13, .ref g14, .ref g15, .ref g16, .ref g17, .ref g18, .ref g19, .int (u_26.2 2 0), .int (u_26.2 3 0), .ref g22, .int (u_26.2 4 0), .ref g24, .int (u_26.2 5 0), .int (u_26.2 6 0), .int (u_26.2 7 0), .ref g28, .ref g29, .int (u_26.2 8 0), .int (u_26.2 9 0)]))] := hD
      have hq_535 := hw
      refine W.widen (k := 258) (n := 111962) (by decide) (by decide) ?_
      refine lv_istore (lv' := [(6, .int r_25), (5, .int 1), (4, .int 0), (3, .ref ou), (2, .ref mo), (1, .ref h0), (0, .ref b)]) hx hb dL_law_538 hl (by decide) rfl (fun ls hl => ?_)
      refine lv_aload_n hx hb dL_law_540 rfl (lv_at hl 4 rfl) ?_
      have hPc := hP.sub (ws' := [(mo, .inr (9, [.int (u_26.2 0 0), .int (u_26.2 1 0), .ref g2, .ref g3, .ref g4, .ref g5, .ref g6, .ref g7, .ref g8, .ref g9, .ref g10, .ref g11, .ref g12, .ref g13, .ref g14, .ref g15, .ref g16, .ref g17, .ref g18, .ref g19, .int (u_26.2 2 0), .int (u_26.2 3 0), .ref g22, .int (u_26.2 4 0), .ref g24, .int (u_26.2 5 0), .int (u_26.2 6 0), .int (u_26.2 7 0), .ref g28, .ref g29, .int (u_26.2 8 0), .int (u_26.2 9 0)]))]) [1] rfl
      have hDc := hD.sub (ws' := [(mo, .inr (9, [.int (u_26.2 0 0), .int (u_26.2 1 0), .ref g2, .ref g3, .ref g4, .ref g5, .ref g6, .ref g7, .ref g8, .ref g9, .ref g10, .ref g11, .ref g12, .ref g13, .ref g14, .ref g15, .ref g16, .ref g17, .ref g18, .ref g19, .int (u_26.2 2 0), .int (u_26.2 3 0), .ref g22, .int (u_26.2 4 0), .ref g24, .int (u_26.2 5 0), .int (u_26.2 6 0), .int (u_26.2 7 0), .ref g28, .ref g29, .int (u_26.2 8 0), .int (u_26.2 9 0)]))]) [1] (by decide) rfl
      have hFc := va_free (wc := [(mo, .inr (9, [.int (u_26.2 0 0), .int (u_26.2 1 0), .ref g2, .ref g3, .ref g4, .ref g5, .ref g6, .ref g7, .ref g8, .ref g9, .ref g10, .ref g11, .ref g12, .ref g13, .ref g14, .ref g15, .ref g16, .ref g17, .ref g18, .ref g19, .int (u_26.2 2 0), .int (u_26.2 3 0), .ref g22, .int (u_26.2 4 0), .ref g24, .int (u_26.2 5 0), .int (u_26.2 6 0), .int (u_26.2 7 0), .ref g28, .ref g29, .int (u_26.2 8 0), .int (u_26.2 9 0)]))]) hD hS hA [1] rfl
      refine va_calli (va_runV (As := []) (rest := []) ⟨hx, hb, hml, hown, ht⟩ (k9_thrown l D C s.heap.size H.size mo g2 g3 g4 g5 g6 g7 g8 g9 g10 g11 g12 g13 g14 g15 g16 g17 g18 g19 g22 g24 g28 g29 (u_26.2 0 0) (u_26.2 1 0) (u_26.2 2 0) (u_26.2 3 0) (u_26.2 4 0) (u_26.2 5 0) (u_26.2 6 0) (u_26.2 7 0) (u_26.2 8 0) (u_26.2 9 0)) (cwV 0 ht (xg_V m_562 m_563 m_564 m_391 m_221) rfl rfl rfl (by decide +kernel) ⟨Nat.le_of_ble_eq_true rfl, Nat.le_of_ble_eq_true rfl⟩) ⟨xPc_bl, va_recv hK hPc (ci := 9) (q0 := 0) rfl rfl, xPc_at hPc hK hDc hE hS hAb⟩ rfl rfl hl.1 rfl (lv_room (Nat.le_of_ble_eq_true rfl)) dL_law_541 ⟨(by decide), (by decide)⟩) hS (fun q _ h => hFc q h) hFc (fun r_27 u_28 t H1 locs ht1 hvm hw hB hz1 hk1 hS => ?_)
      obtain ⟨hP1, hD1⟩ := hB
      rw [ht1] at hP1
      try dsimp only at hw
      obtain ⟨hP, hD⟩ := va_join (wr := [(ou, .inl (C 2, 1, .inr (.inl (u_20))))]) (w1 := [(mo, .inr (9, [.int (u_26.2 0 0), .int (u_26.2 1 0), .ref g2, .ref g3, .ref g4, .ref g5, .ref g6, .ref g7, .ref g8, .ref g9, .ref g10, .ref g11, .ref g12, .ref g13, .ref g14, .ref g15, .ref g16, .ref g17, .ref g18, .ref g19, .int (u_26.2 2 0), .int (u_26.2 3 0), .ref g22, .int (u_26.2 4 0), .ref g24, .int (u_26.2 5 0), .int (u_26.2 6 0), .int (u_26.2 7 0), .ref g28, .ref g29, .int (u_26.2 8 0), .int (u_26.2 9 0)]))]) hP hD [1] [0] rfl rfl (by decide) (by decide) hk1 hFc hP1 hD1
      generalize H1 = H at hP hS ⊢
      have hP : va_P D vwCl [(ou, .inl (C 2, 1, .inr (.inl (u_20)))), (mo, .inr (9, [.int (u_26.2 0 0), .int (u_26.2 1 0), .ref g2, .ref g3, .ref g4, .ref g5, .ref g6, .ref g7, .ref g8, .ref g9, .ref g10, .ref g11, .ref g12, .ref g13, .ref g14, .ref g15, .ref g16, .ref g17, .ref g18, .ref g19, .int (u_26.2 2 0), .int (u_26.2 3 0), .ref g22, .int (u_26.2 4 0), .ref g24, .int (u_26.2 5 0), .int (u_26.2 6 0), .int (u_26.2 7 0), .ref g28, .ref g29, .int (u_26.2 8 0), .int (u_26.2 9 0)]))] H := hP
      have hD : va_D A [(ou, .inl (C 2, 1, .inr (.inl (u_20)))), (mo, .inr (9, [.int (u_26.2 0 0), .int (u_26.2 1 0), .ref g2, .ref g3, .ref g4, .ref g5, .ref g6, .ref g7, .ref g8, .ref g9, .ref g10, .ref g11, .ref g12, .ref g13, .ref g14, .ref g15, .ref g16, .ref g17, .ref g18, .ref g19, .int (u_26.2 2 0), .int (u_26.2 3 0), .ref g22, .int (u_26.2 4 0), .ref g24, .int (u_26.2 5 0), .int (u_26.2 6 0), .int (u_26.2 7 0), .ref g28, .ref g29, .int (u_26.2 8 0), .int (u_26.2 9 0)]))] := hD
      have hq_541 := hw
      obtain rfl : r_27 = (1 : Int32) := hw.trans hq_535
      refine lv_iload hx hb dL_law_544 (lv_at hl 1 rfl) ?_
      refine lv_icmp_eq (tgt := 551) hx hb dL_law_546 (by decide) (fun c_546 => ?_) (fun c_546 => ?_)
      rotate_left
      · exact absurd c_546 (by decide)
      refine lv_iload hx hb dL_law_551 (lv_at hl 1 rfl) ?_
      refine lv_if_ne (tgt := 568) hx hb dL_law_553 (by decide) (fun c_553 => ?_) (fun c_553 => ?_)
      rotate_left
      · exact absurd c_553 (by decide)
      refine lv_goto (tgt := 1732) hx hb dL_law_568 (by decide) ?_
      exact lc_end ⟨hl0, hx, hb, hr, hml, hown, ht, hX, hbl, hlocks, hK, hE, hA, hAs, hbA⟩ (by decide) (by decide) hS (lv_sub hl [2, 6] rfl)
    · skip
      refine lv_iconst (v := 1) hx hb dL_law_530 (by decide) ?_
      refine lv_goto (tgt := 535) hx hb dL_law_531 (by decide) ?_
      have hPc := hP.sub (ws' := [(mo, .inr (9, [.int 0, .int 0, .ref g2, .ref g3, .ref g4, .ref g5, .ref g6, .ref g7, .ref g8, .ref g9, .ref g10, .ref g11, .ref g12, .ref g13, .ref g14, .ref g15, .ref g16, .ref g17, .ref g18, .ref g19, .int 0, .int 0, .ref g22, .int 0, .ref g24, .int 0, .int 0, .int (-1), .ref g28, .ref g29, .int 0, .int 0]))]) [0] rfl
      have hDc := hD.sub (ws' := [(mo, .inr (9, [.int 0, .int 0, .ref g2, .ref g3, .ref g4, .ref g5, .ref g6, .ref g7, .ref g8, .ref g9, .ref g10, .ref g11, .ref g12, .ref g13, .ref g14, .ref g15, .ref g16, .ref g17, .ref g18, .ref g19, .int 0, .int 0, .ref g22, .int 0, .ref g24, .int 0, .int 0, .int (-1), .ref g28, .ref g29, .int 0, .int 0]))]) [0] (by decide) rfl
      have hFc := va_free (wc := [(mo, .inr (9, [.int 0, .int 0, .ref g2, .ref g3, .ref g4, .ref g5, .ref g6, .ref g7, .ref g8, .ref g9, .ref g10, .ref g11, .ref g12, .ref g13, .ref g14, .ref g15, .ref g16, .ref g17, .ref g18, .ref g19, .int 0, .int 0, .ref g22, .int 0, .ref g24, .int 0, .int 0, .int (-1), .ref g28, .ref g29, .int 0, .int 0]))]) hD hS hA [0] rfl
      refine va_calli (vx_runVW (As := [.int (xs (Int32.toNatClampNeg 1)), .int (xs (Int32.toNatClampNeg 2)), .int (xs (Int32.toNatClampNeg 3)), .int 1]) (rest := []) ⟨hx, hb, hml, hown, ht⟩ (k9p_get l D C s.heap.size H.size mo g2 g3 g4 g5 g6 g7 g8 g9 g10 g11 g12 g13 g14 g15 g16 g17 g18 g19 g22 g24 g28 g29 ((xs (Int32.toNatClampNeg 1))) ((xs (Int32.toNatClampNeg 2))) ((xs (Int32.toNatClampNeg 3))) 1) (vx_cwVW 4 ht (xg_V m_587 m_588 m_589 m_391 m_230) rfl rfl rfl (by decide +kernel) ⟨Nat.le_of_ble_eq_true rfl, Nat.le_of_ble_eq_true rfl⟩) ⟨xPc_bl, va_recv hK hPc (ci := 9) (q0 := 0) rfl rfl, xPc_at hPc hK hDc hE hS hAb⟩ rfl rfl hl.1 rfl (lv_room (Nat.le_of_ble_eq_true rfl)) dL_law_535 ⟨(by decide), (by decide)⟩) hS (fun q _ h => hFc q h) hFc (fun r_29 u_30 t H1 locs ht1 hvm hw hB hz1 hk1 hS => ?_)
      obtain ⟨hP1, hD1⟩ := hB
      rw [ht1] at hP1
      try dsimp only at hw
      obtain ⟨hP, hD⟩ := va_join (wr := [(ou, .inl (C 2, 1, .inr (.inl (u_20))))]) (w1 := [(mo, .inr (9, [.int (u_30.2 0 0), .int (u_30.2 1 0), .ref g2, .ref g3, .ref g4, .ref g5, .ref g6, .ref g7, .ref g8, .ref g9, .ref g10, .ref g11, .ref g12, .ref g13, .ref g14, .ref g15, .ref g16, .ref g17, .ref g18, .ref g19, .int (u_30.2 2 0), .int (u_30.2 3 0), .ref g22, .int (u_30.2 4 0), .ref g24, .int (u_30.2 5 0), .int (u_30.2 6 0), .int (u_30.2 7 0), .ref g28, .ref g29, .int (u_30.2 8 0), .int (u_30.2 9 0)]))]) hP hD [0] [1] rfl rfl (by decide) (by decide) hk1 hFc hP1 hD1
      generalize H1 = H at hP hS ⊢
      have hP : va_P D vwCl [(ou, .inl (C 2, 1, .inr (.inl (u_20)))), (mo, .inr (9, [.int (u_30.2 0 0), .int (u_30.2 1 0), .ref g2, .ref g3, .ref g4, .ref g5, .ref g6, .ref g7, .ref g8, .ref g9, .ref g10, .ref g11, .ref g12, .ref g13, .ref g14, .ref g15, .ref g16, .ref g17, .ref g18, .ref g19, .int (u_30.2 2 0), .int (u_30.2 3 0), .ref g22, .int (u_30.2 4 0), .ref g24, .int (u_30.2 5 0), .int (u_30.2 6 0), .int (u_30.2 7 0), .ref g28, .ref g29, .int (u_30.2 8 0), .int (u_30.2 9 0)]))] H := hP
      have hD : va_D A [(ou, .inl (C 2, 1, .inr (.inl (u_20)))), (mo, .inr (9, [.int (u_30.2 0 0), .int (u_30.2 1 0), .ref g2, .ref g3, .ref g4, .ref g5, .ref g6, .ref g7, .ref g8, .ref g9, .ref g10, .ref g11, .ref g12, .ref g13, .ref g14, .ref g15, .ref g16, .ref g17, .ref g18, .ref g19, .int (u_30.2 2 0), .int (u_30.2 3 0), .ref g22, .int (u_30.2 4 0), .ref g24, .int (u_30.2 5 0), .int (u_30.2 6 0), .int (u_30.2 7 0), .ref g28, .ref g29, .int (u_30.2 8 0), .int (u_30.2 9 0)]))] := hD
      have hq_535 := hw
      refine W.widen (k := 258) (n := 111962) (by decide) (by decide) ?_
      refine lv_istore (lv' := [(6, .int r_29), (5, .int 1), (4, .int 0), (3, .ref ou), (2, .ref mo), (1, .ref h0), (0, .ref b)]) hx hb dL_law_538 hl (by decide) rfl (fun ls hl => ?_)
      refine lv_aload_n hx hb dL_law_540 rfl (lv_at hl 4 rfl) ?_
      have hPc := hP.sub (ws' := [(mo, .inr (9, [.int (u_30.2 0 0), .int (u_30.2 1 0), .ref g2, .ref g3, .ref g4, .ref g5, .ref g6, .ref g7, .ref g8, .ref g9, .ref g10, .ref g11, .ref g12, .ref g13, .ref g14, .ref g15, .ref g16, .ref g17, .ref g18, .ref g19, .int (u_30.2 2 0), .int (u_30.2 3 0), .ref g22, .int (u_30.2 4 0), .ref g24, .int (u_30.2 5 0), .int (u_30.2 6 0), .int (u_30.2 7 0), .ref g28, .ref g29, .int (u_30.2 8 0), .int (u_30.2 9 0)]))]) [1] rfl
      have hDc := hD.sub (ws' := [(mo, .inr (9, [.int (u_30.2 0 0), .int (u_30.2 1 0), .ref g2, .ref g3, .ref g4, .ref g5, .ref g6, .ref g7, .ref g8, .ref g9, .ref g10, .ref g11, .ref g12, .ref g13, .ref g14, .ref g15, .ref g16, .ref g17, .ref g18, .ref g19, .int (u_30.2 2 0), .int (u_30.2 3 0), .ref g22, .int (u_30.2 4 0), .ref g24, .int (u_30.2 5 0), .int (u_30.2 6 0), .int (u_30.2 7 0), .ref g28, .ref g29, .int (u_30.2 8 0), .int (u_30.2 9 0)]))]) [1] (by decide) rfl
      have hFc := va_free (wc := [(mo, .inr (9, [.int (u_30.2 0 0), .int (u_30.2 1 0), .ref g2, .ref g3, .ref g4, .ref g5, .ref g6, .ref g7, .ref g8, .ref g9, .ref g10, .ref g11, .ref g12, .ref g13, .ref g14, .ref g15, .ref g16, .ref g17, .ref g18, .ref g19, .int (u_30.2 2 0), .int (u_30.2 3 0), .ref g22, .int (u_30.2 4 0), .ref g24, .int (u_30.2 5 0), .int (u_30.2 6 0), .int (u_30.2 7 0), .ref g28, .ref g29, .int (u_30.2 8 0), .int (u_30.2 9 0)]))]) hD hS hA [1] rfl
      refine va_calli (va_runV (As := []) (rest := []) ⟨hx, hb, hml, hown, ht⟩ (k9_thrown l D C s.heap.size H.size mo g2 g3 g4 g5 g6 g7 g8 g9 g10 g11 g12 g13 g14 g15 g16 g17 g18 g19 g22 g24 g28 g29 (u_30.2 0 0) (u_30.2 1 0) (u_30.2 2 0) (u_30.2 3 0) (u_30.2 4 0) (u_30.2 5 0) (u_30.2 6 0) (u_30.2 7 0) (u_30.2 8 0) (u_30.2 9 0)) (cwV 0 ht (xg_V m_562 m_563 m_564 m_391 m_221) rfl rfl rfl (by decide +kernel) ⟨Nat.le_of_ble_eq_true rfl, Nat.le_of_ble_eq_true rfl⟩) ⟨xPc_bl, va_recv hK hPc (ci := 9) (q0 := 0) rfl rfl, xPc_at hPc hK hDc hE hS hAb⟩ rfl rfl hl.1 rfl (lv_room (Nat.le_of_ble_eq_true rfl)) dL_law_541 ⟨(by decide), (by decide)⟩) hS (fun q _ h => hFc q h) hFc (fun r_31 u_32 t H1 locs ht1 hvm hw hB hz1 hk1 hS => ?_)
      obtain ⟨hP1, hD1⟩ := hB
      rw [ht1] at hP1
      try dsimp only at hw
      obtain ⟨hP, hD⟩ := va_join (wr := [(ou, .inl (C 2, 1, .inr (.inl (u_20))))]) (w1 := [(mo, .inr (9, [.int (u_30.2 0 0), .int (u_30.2 1 0), .ref g2, .ref g3, .ref g4, .ref g5, .ref g6, .ref g7, .ref g8, .ref g9, .ref g10, .ref g11, .ref g12, .ref g13, .ref g14, .ref g15, .ref g16, .ref g17, .ref g18, .ref g19, .int (u_30.2 2 0), .int (u_30.2 3 0), .ref g22, .int (u_30.2 4 0), .ref g24, .int (u_30.2 5 0), .int (u_30.2 6 0), .int (u_30.2 7 0), .ref g28, .ref g29, .int (u_30.2 8 0), .int (u_30.2 9 0)]))]) hP hD [1] [0] rfl rfl (by decide) (by decide) hk1 hFc hP1 hD1
      generalize H1 = H at hP hS ⊢
      have hP : va_P D vwCl [(ou, .inl (C 2, 1, .inr (.inl (u_20)))), (mo, .inr (9, [.int (u_30.2 0 0), .int (u_30.2 1 0), .ref g2, .ref g3, .ref g4, .ref g5, .ref g6, .ref g7, .ref g8, .ref g9, .ref g10, .ref g11, .ref g12, .ref g13, .ref g14, .ref g15, .ref g16, .ref g17, .ref g18, .ref g19, .int (u_30.2 2 0), .int (u_30.2 3 0), .ref g22, .int (u_30.2 4 0), .ref g24, .int (u_30.2 5 0), .int (u_30.2 6 0), .int (u_30.2 7 0), .ref g28, .ref g29, .int (u_30.2 8 0), .int (u_30.2 9 0)]))] H := hP
      have hD : va_D A [(ou, .inl (C 2, 1, .inr (.inl (u_20)))), (mo, .inr (9, [.int (u_30.2 0 0), .int (u_30.2 1 0), .ref g2, .ref g3, .ref g4, .ref g5, .ref g6, .ref g7, .ref g8, .ref g9, .ref g10, .ref g11, .ref g12, .ref g13, .ref g14, .ref g15, .ref g16, .ref g17, .ref g18, .ref g19, .int (u_30.2 2 0), .int (u_30.2 3 0), .ref g22, .int (u_30.2 4 0), .ref g24, .int (u_30.2 5 0), .int (u_30.2 6 0), .int (u_30.2 7 0), .ref g28, .ref g29, .int (u_30.2 8 0), .int (u_30.2 9 0)]))] := hD
      have hq_541 := hw
      obtain rfl : r_31 = (1 : Int32) := hw.trans hq_535
      refine lv_iload hx hb dL_law_544 (lv_at hl 1 rfl) ?_
      refine lv_icmp_eq (tgt := 551) hx hb dL_law_546 (by decide) (fun c_546 => ?_) (fun c_546 => ?_)
      rotate_left
      · exact absurd c_546 (by decide)
      refine lv_iload hx hb dL_law_551 (lv_at hl 1 rfl) ?_
      refine lv_if_ne (tgt := 568) hx hb dL_law_553 (by decide) (fun c_553 => ?_) (fun c_553 => ?_)
      rotate_left
      · exact absurd c_553 (by decide)
      refine lv_goto (tgt := 1732) hx hb dL_law_568 (by decide) ?_
      exact lc_end ⟨hl0, hx, hb, hr, hml, hown, ht, hX, hbl, hlocks, hK, hE, hA, hAs, hbA⟩ (by decide) (by decide) hS (lv_sub hl [2, 6] rfl)
set_option maxHeartbeats 4000000 in
set_option maxRecDepth 100000 in
theorem lc_set {p : Program} {l : Launch} {e : Env} {s : State} {m : MethodId} {below : List Frame} {meth : Method} {c : Code} {b : Nat} {xs : Nat → Int32} {D : va_G} {C : Nat → ClassId} {A : Nat → Prop} {h0 s0 de kl tl cu hk ca kx ky tx ty a0 a1 a2 a3 a4 a5 a6 a7 a8 a9 a10 a11 ou mo g2 g3 g4 g5 g6 g7 g8 g9 g10 g11 g12 g13 g14 g15 g16 g17 g18 g19 g22 g24 g28 g29 : Nat} {fo : Nat → Int64} (h : lAt p l s m meth c b 6 xs D C A) {H : Heap} {locs : List Loc} {ls : Array Slot} (hP : va_P D vwCl [(h0, .inr (5, [.ref s0, .ref de, .ref kl, .ref tl, .ref cu, .ref hk, .ref ca, .int 0, .int 0, .int (-1), .int 0, .int 0])), (kl, .inr (2, [.ref kx, .ref ky, .int 0])), (tl, .inr (4, [.ref tx, .ref ty, .int 1])), (s0, .inr (3, [.ref a0, .ref a1, .ref a2, .ref a3, .ref a4, .ref a5, .ref a6, .int 0, .ref a7, .ref a8, .ref a9, .ref a10, .ref a11, .int 0])), (ou, .inl (C 2, 1, .inr (.inl fo))), (mo, .inr (9, [.int 0, .int 0, .ref g2, .ref g3, .ref g4, .ref g5, .ref g6, .ref g7, .ref g8, .ref g9, .ref g10, .ref g11, .ref g12, .ref g13, .ref g14, .ref g15, .ref g16, .ref g17, .ref g18, .ref g19, .int 0, .int 0, .ref g22, .int 0, .ref g24, .int 0, .int 0, .int (-1), .ref g28, .ref g29, .int 0, .int 0]))] H) (hD : va_D A [(h0, .inr (5, [.ref s0, .ref de, .ref kl, .ref tl, .ref cu, .ref hk, .ref ca, .int 0, .int 0, .int (-1), .int 0, .int 0])), (kl, .inr (2, [.ref kx, .ref ky, .int 0])), (tl, .inr (4, [.ref tx, .ref ty, .int 1])), (s0, .inr (3, [.ref a0, .ref a1, .ref a2, .ref a3, .ref a4, .ref a5, .ref a6, .int 0, .ref a7, .ref a8, .ref a9, .ref a10, .ref a11, .int 0])), (ou, .inl (C 2, 1, .inr (.inl fo))), (mo, .inr (9, [.int 0, .int 0, .ref g2, .ref g3, .ref g4, .ref g5, .ref g6, .ref g7, .ref g8, .ref g9, .ref g10, .ref g11, .ref g12, .ref g13, .ref g14, .ref g15, .ref g16, .ref g17, .ref g18, .ref g19, .int 0, .int 0, .ref g22, .int 0, .ref g24, .int 0, .int 0, .int (-1), .ref g28, .ref g29, .int 0, .int 0]))]) (hS : va_S A s.heap H locs) (hl : lv_has ls 7 [(4, .int 0), (3, .ref ou), (2, .ref mo), (1, .ref h0), (0, .ref b)]) : W p l e room_1 s m #[Value.ref b] below meth c H locs 254 111937 (lw_Z below #[Value.ref b] s) (F0 m 571 ls []) := by
  obtain ⟨hl0, hx, hb, hr, hml, hown, ht, hX, hbl, hlocks, hK, hE, hA, hAs, hbA⟩ := h
  have hAb := hAs
  refine lv_aload_n hx hb dL_law_571 rfl (lv_at hl 3 rfl) ?_
  refine lv_aload_n hx hb dL_law_572 rfl (lv_at hl 4 rfl) ?_
  refine lv_iload hx hb dL_law_573 (lv_at hl 0 rfl) ?_
  refine lv_iconst (v := 1) hx hb dL_law_575 (by decide) ?_
  refine lv_iadd hx hb dL_law_576 ?_
  refine lv_topi (fun x_1 ex_1 => ?_)
  obtain rfl : x_1 = (1 : Int32) := ex_1.trans (by decide)
  refine va_sld hx hb hX hbl hbA hS (by unfold vp_in; decide) dL_law_577 ?_
  refine lv_aload_n hx hb dL_law_578 rfl (lv_at hl 4 rfl) ?_
  refine lv_iload hx hb dL_law_579 (lv_at hl 0 rfl) ?_
  refine lv_iconst (v := 2) hx hb dL_law_581 (by decide) ?_
  refine lv_iadd hx hb dL_law_582 ?_
  refine lv_topi (fun x_2 ex_2 => ?_)
  obtain rfl : x_2 = (2 : Int32) := ex_2.trans (by decide)
  refine va_sld hx hb hX hbl hbA hS (by unfold vp_in; decide) dL_law_583 ?_
  refine lv_aload_n hx hb dL_law_584 rfl (lv_at hl 4 rfl) ?_
  refine lv_iload hx hb dL_law_585 (lv_at hl 0 rfl) ?_
  refine lv_iconst (v := 3) hx hb dL_law_587 (by decide) ?_
  refine lv_iadd hx hb dL_law_588 ?_
  refine lv_topi (fun x_3 ex_3 => ?_)
  obtain rfl : x_3 = (3 : Int32) := ex_3.trans (by decide)
  refine va_sld hx hb hX hbl hbA hS (by unfold vp_in; decide) dL_law_589 ?_
  refine lv_aload_n hx hb dL_law_590 rfl (lv_at hl 4 rfl) ?_
  refine lv_iload hx hb dL_law_591 (lv_at hl 0 rfl) ?_
  refine lv_iconst (v := 4) hx hb dL_law_593 (by decide) ?_
  refine lv_iadd hx hb dL_law_594 ?_
  refine lv_topi (fun x_4 ex_4 => ?_)
  obtain rfl : x_4 = (4 : Int32) := ex_4.trans (by decide)
  refine va_sld hx hb hX hbl hbA hS (by unfold vp_in; decide) dL_law_595 ?_
  refine lv_aload_n hx hb dL_law_596 rfl (lv_at hl 4 rfl) ?_
  refine lv_iload hx hb dL_law_597 (lv_at hl 0 rfl) ?_
  refine lv_iconst (v := 5) hx hb dL_law_599 (by decide) ?_
  refine lv_iadd hx hb dL_law_600 ?_
  refine lv_topi (fun x_5 ex_5 => ?_)
  obtain rfl : x_5 = (5 : Int32) := ex_5.trans (by decide)
  refine va_sld hx hb hX hbl hbA hS (by unfold vp_in; decide) dL_law_601 ?_
  refine lv_if_eq (tgt := 609) hx hb dL_law_602 (by decide) (fun c_602 => ?_) (fun c_602 => ?_)
  · skip
    refine lv_iconst (v := 0) hx hb dL_law_609 (by decide) ?_
    refine lv_aload_n hx hb dL_law_610 rfl (lv_at hl 1 rfl) ?_
    have hPc := hP.sub (ws' := [(h0, .inr (5, [.ref s0, .ref de, .ref kl, .ref tl, .ref cu, .ref hk, .ref ca, .int 0, .int 0, .int (-1), .int 0, .int 0])), (kl, .inr (2, [.ref kx, .ref ky, .int 0])), (tl, .inr (4, [.ref tx, .ref ty, .int 1])), (s0, .inr (3, [.ref a0, .ref a1, .ref a2, .ref a3, .ref a4, .ref a5, .ref a6, .int 0, .ref a7, .ref a8, .ref a9, .ref a10, .ref a11, .int 0])), (ou, .inl (C 2, 1, .inr (.inl fo)))]) [0, 1, 2, 3, 4] rfl
    have hDc := hD.sub (ws' := [(h0, .inr (5, [.ref s0, .ref de, .ref kl, .ref tl, .ref cu, .ref hk, .ref ca, .int 0, .int 0, .int (-1), .int 0, .int 0])), (kl, .inr (2, [.ref kx, .ref ky, .int 0])), (tl, .inr (4, [.ref tx, .ref ty, .int 1])), (s0, .inr (3, [.ref a0, .ref a1, .ref a2, .ref a3, .ref a4, .ref a5, .ref a6, .int 0, .ref a7, .ref a8, .ref a9, .ref a10, .ref a11, .int 0])), (ou, .inl (C 2, 1, .inr (.inl fo)))]) [0, 1, 2, 3, 4] (by decide) rfl
    have hFc := va_free (wc := [(h0, .inr (5, [.ref s0, .ref de, .ref kl, .ref tl, .ref cu, .ref hk, .ref ca, .int 0, .int 0, .int (-1), .int 0, .int 0])), (kl, .inr (2, [.ref kx, .ref ky, .int 0])), (tl, .inr (4, [.ref tx, .ref ty, .int 1])), (s0, .inr (3, [.ref a0, .ref a1, .ref a2, .ref a3, .ref a4, .ref a5, .ref a6, .int 0, .ref a7, .ref a8, .ref a9, .ref a10, .ref a11, .int 0])), (ou, .inl (C 2, 1, .inr (.inl fo)))]) hD hS hA [0, 1, 2, 3, 4] rfl
    refine va_calli (vx_runSW (As := [.ref h0, .int (xs (Int32.toNatClampNeg 1)), .int (xs (Int32.toNatClampNeg 2)), .int (xs (Int32.toNatClampNeg 3)), .int (xs (Int32.toNatClampNeg 4)), .int 0, .ref ou]) (rest := []) ⟨hx, hb, hml, hown, ht⟩ (kL_set l hl0 D C s.heap.size H.size h0 s0 de kl tl cu hk ca kx ky tx ty a0 a1 a2 a3 a4 a5 a6 a7 a8 a9 a10 a11 ((xs (Int32.toNatClampNeg 1))) ((xs (Int32.toNatClampNeg 2))) ((xs (Int32.toNatClampNeg 3))) ((xs (Int32.toNatClampNeg 4))) 0 ou fo) (vx_cwSW 7 ht (xg_T m_590 m_591 m_558 m_475) rfl rfl rfl (by decide +kernel) ⟨Nat.le_of_ble_eq_true rfl, Nat.le_of_ble_eq_true rfl⟩) ⟨xPc_bl, xPc_at hPc hK hDc hE hS hAb⟩ rfl rfl hl.1 rfl (lv_room (Nat.le_of_ble_eq_true rfl)) dL_law_611 ⟨(by decide), (by decide)⟩) hS (fun q _ h => hFc q h) hFc (fun r_6 u_7 t H1 locs ht1 hvm hw hB hz1 hk1 hS => ?_)
    obtain ⟨hP1, hD1⟩ := hB
    rw [ht1] at hP1
    try dsimp only at hw
    obtain ⟨hP, hD⟩ := va_join (wr := [(mo, .inr (9, [.int 0, .int 0, .ref g2, .ref g3, .ref g4, .ref g5, .ref g6, .ref g7, .ref g8, .ref g9, .ref g10, .ref g11, .ref g12, .ref g13, .ref g14, .ref g15, .ref g16, .ref g17, .ref g18, .ref g19, .int 0, .int 0, .ref g22, .int 0, .ref g24, .int 0, .int 0, .int (-1), .ref g28, .ref g29, .int 0, .int 0]))]) (w1 := [(ou, .inl (C 2, 1, .inr (.inl (u_7))))]) hP hD [0, 1, 2, 3, 4] [5] rfl rfl (by decide) (by decide) hk1 hFc hP1 hD1
    generalize H1 = H at hP hS ⊢
    have hP : va_P D vwCl [(mo, .inr (9, [.int 0, .int 0, .ref g2, .ref g3, .ref g4, .ref g5, .ref g6, .ref g7, .ref g8, .ref g9, .ref g10, .ref g11, .ref g12, .ref g13, .ref g14, .ref g15, .ref g16, .ref g17, .ref g18, .ref g19, .int 0, .int 0, .ref g22, .int 0, .ref g24, .int 0, .int 0, .int (-1), .ref g28, .ref g29, .int 0, .int 0])), (ou, .inl (C 2, 1, .inr (.inl (u_7))))] H := hP
    have hD : va_D A [(mo, .inr (9, [.int 0, .int 0, .ref g2, .ref g3, .ref g4, .ref g5, .ref g6, .ref g7, .ref g8, .ref g9, .ref g10, .ref g11, .ref g12, .ref g13, .ref g14, .ref g15, .ref g16, .ref g17, .ref g18, .ref g19, .int 0, .int 0, .ref g22, .int 0, .ref g24, .int 0, .int 0, .int (-1), .ref g28, .ref g29, .int 0, .int 0])), (ou, .inl (C 2, 1, .inr (.inl (u_7))))] := hD
    have hq_611 := hw
    obtain rfl : r_6 = (1 : Int32) := hw
    refine W.widen (k := 257) (n := 111955) (by decide) (by decide) ?_
    refine lv_istore (lv' := [(5, .int 1), (4, .int 0), (3, .ref ou), (2, .ref mo), (1, .ref h0), (0, .ref b)]) hx hb dL_law_614 hl (by decide) rfl (fun ls hl => ?_)
    refine lv_aload_n hx hb dL_law_616 rfl (lv_at hl 3 rfl) ?_
    refine lv_aload_n hx hb dL_law_617 rfl (lv_at hl 5 rfl) ?_
    refine lv_iload hx hb dL_law_618 (lv_at hl 1 rfl) ?_
    refine lv_iconst (v := 1) hx hb dL_law_620 (by decide) ?_
    refine lv_iadd hx hb dL_law_621 ?_
    refine lv_topi (fun x_8 ex_8 => ?_)
    obtain rfl : x_8 = (1 : Int32) := ex_8.trans (by decide)
    refine va_sld hx hb hX hbl hbA hS (by unfold vp_in; decide) dL_law_622 ?_
    refine lv_aload_n hx hb dL_law_623 rfl (lv_at hl 5 rfl) ?_
    refine lv_iload hx hb dL_law_624 (lv_at hl 1 rfl) ?_
    refine lv_iconst (v := 2) hx hb dL_law_626 (by decide) ?_
    refine lv_iadd hx hb dL_law_627 ?_
    refine lv_topi (fun x_9 ex_9 => ?_)
    obtain rfl : x_9 = (2 : Int32) := ex_9.trans (by decide)
    refine va_sld hx hb hX hbl hbA hS (by unfold vp_in; decide) dL_law_628 ?_
    refine lv_aload_n hx hb dL_law_629 rfl (lv_at hl 5 rfl) ?_
    refine lv_iload hx hb dL_law_630 (lv_at hl 1 rfl) ?_
    refine lv_iconst (v := 3) hx hb dL_law_632 (by decide) ?_
    refine lv_iadd hx hb dL_law_633 ?_
    refine lv_topi (fun x_10 ex_10 => ?_)
    obtain rfl : x_10 = (3 : Int32) := ex_10.trans (by decide)
    refine va_sld hx hb hX hbl hbA hS (by unfold vp_in; decide) dL_law_634 ?_
    refine lv_aload_n hx hb dL_law_635 rfl (lv_at hl 5 rfl) ?_
    refine lv_iload hx hb dL_law_636 (lv_at hl 1 rfl) ?_
    refine lv_iconst (v := 4) hx hb dL_law_638 (by decide) ?_
    refine lv_iadd hx hb dL_law_639 ?_
    refine lv_topi (fun x_11 ex_11 => ?_)
    obtain rfl : x_11 = (4 : Int32) := ex_11.trans (by decide)
    refine va_sld hx hb hX hbl hbA hS (by unfold vp_in; decide) dL_law_640 ?_
    refine lv_aload_n hx hb dL_law_641 rfl (lv_at hl 5 rfl) ?_
    refine lv_iload hx hb dL_law_642 (lv_at hl 1 rfl) ?_
    refine lv_iconst (v := 5) hx hb dL_law_644 (by decide) ?_
    refine lv_iadd hx hb dL_law_645 ?_
    refine lv_topi (fun x_12 ex_12 => ?_)
    obtain rfl : x_12 = (5 : Int32) := ex_12.trans (by decide)
    refine va_sld hx hb hX hbl hbA hS (by unfold vp_in; decide) dL_law_646 ?_
    refine lv_if_eq (tgt := 654) hx hb dL_law_647 (by decide) (fun c_647 => ?_) (fun c_647 => ?_)
    · skip
      refine lv_iconst (v := 0) hx hb dL_law_654 (by decide) ?_
      have hPc := hP.sub (ws' := [(mo, .inr (9, [.int 0, .int 0, .ref g2, .ref g3, .ref g4, .ref g5, .ref g6, .ref g7, .ref g8, .ref g9, .ref g10, .ref g11, .ref g12, .ref g13, .ref g14, .ref g15, .ref g16, .ref g17, .ref g18, .ref g19, .int 0, .int 0, .ref g22, .int 0, .ref g24, .int 0, .int 0, .int (-1), .ref g28, .ref g29, .int 0, .int 0]))]) [0] rfl
      have hDc := hD.sub (ws' := [(mo, .inr (9, [.int 0, .int 0, .ref g2, .ref g3, .ref g4, .ref g5, .ref g6, .ref g7, .ref g8, .ref g9, .ref g10, .ref g11, .ref g12, .ref g13, .ref g14, .ref g15, .ref g16, .ref g17, .ref g18, .ref g19, .int 0, .int 0, .ref g22, .int 0, .ref g24, .int 0, .int 0, .int (-1), .ref g28, .ref g29, .int 0, .int 0]))]) [0] (by decide) rfl
      have hFc := va_free (wc := [(mo, .inr (9, [.int 0, .int 0, .ref g2, .ref g3, .ref g4, .ref g5, .ref g6, .ref g7, .ref g8, .ref g9, .ref g10, .ref g11, .ref g12, .ref g13, .ref g14, .ref g15, .ref g16, .ref g17, .ref g18, .ref g19, .int 0, .int 0, .ref g22, .int 0, .ref g24, .int 0, .int 0, .int (-1), .ref g28, .ref g29, .int 0, .int 0]))]) hD hS hA [0] rfl
      refine va_calli (vx_runVW (As := [.int (xs (Int32.toNatClampNeg 1)), .int (xs (Int32.toNatClampNeg 2)), .int (xs (Int32.toNatClampNeg 3)), .int (xs (Int32.toNatClampNeg 4)), .int 0]) (rest := []) ⟨hx, hb, hml, hown, ht⟩ (k9p_set l D C s.heap.size H.size mo g2 g3 g4 g5 g6 g7 g8 g9 g10 g11 g12 g13 g14 g15 g16 g17 g18 g19 g22 g24 g28 g29 ((xs (Int32.toNatClampNeg 1))) ((xs (Int32.toNatClampNeg 2))) ((xs (Int32.toNatClampNeg 3))) ((xs (Int32.toNatClampNeg 4))) 0) (vx_cwVW 5 ht (xg_V m_592 m_593 m_594 m_391 m_231) rfl rfl rfl (by decide +kernel) ⟨Nat.le_of_ble_eq_true rfl, Nat.le_of_ble_eq_true rfl⟩) ⟨xPc_bl, va_recv hK hPc (ci := 9) (q0 := 0) rfl rfl, xPc_at hPc hK hDc hE hS hAb⟩ rfl rfl hl.1 rfl (lv_room (Nat.le_of_ble_eq_true rfl)) dL_law_655 ⟨(by decide), (by decide)⟩) hS (fun q _ h => hFc q h) hFc (fun r_13 u_14 t H1 locs ht1 hvm hw hB hz1 hk1 hS => ?_)
      obtain ⟨hP1, hD1⟩ := hB
      rw [ht1] at hP1
      try dsimp only at hw
      obtain ⟨hP, hD⟩ := va_join (wr := [(ou, .inl (C 2, 1, .inr (.inl (u_7))))]) (w1 := [(mo, .inr (9, [.int (u_14.2 0 0), .int (u_14.2 1 0), .ref g2, .ref g3, .ref g4, .ref g5, .ref g6, .ref g7, .ref g8, .ref g9, .ref g10, .ref g11, .ref g12, .ref g13, .ref g14, .ref g15, .ref g16, .ref g17, .ref g18, .ref g19, .int (u_14.2 2 0), .int (u_14.2 3 0), .ref g22, .int (u_14.2 4 0), .ref g24, .int (u_14.2 5 0), .int (u_14.2 6 0), .int (u_14.2 7 0), .ref g28, .ref g29, .int (u_14.2 8 0), .int (u_14.2 9 0)]))]) hP hD [0] [1] rfl rfl (by decide) (by decide) hk1 hFc hP1 hD1
      generalize H1 = H at hP hS ⊢
      have hP : va_P D vwCl [(ou, .inl (C 2, 1, .inr (.inl (u_7)))), (mo, .inr (9, [.int (u_14.2 0 0), .int (u_14.2 1 0), .ref g2, .ref g3, .ref g4, .ref g5, .ref g6, .ref g7, .ref g8, .ref g9, .ref g10, .ref g11, .ref g12, .ref g13, .ref g14, .ref g15, .ref g16, .ref g17, .ref g18, .ref g19, .int (u_14.2 2 0), .int (u_14.2 3 0), .ref g22, .int (u_14.2 4 0), .ref g24, .int (u_14.2 5 0), .int (u_14.2 6 0), .int (u_14.2 7 0), .ref g28, .ref g29, .int (u_14.2 8 0), .int (u_14.2 9 0)]))] H := hP
      have hD : va_D A [(ou, .inl (C 2, 1, .inr (.inl (u_7)))), (mo, .inr (9, [.int (u_14.2 0 0), .int (u_14.2 1 0), .ref g2, .ref g3, .ref g4, .ref g5, .ref g6, .ref g7, .ref g8, .ref g9, .ref g10, .ref g11, .ref g12, .ref g13, .ref g14, .ref g15, .ref g16, .ref g17, .ref g18, .ref g19, .int (u_14.2 2 0), .int (u_14.2 3 0), .ref g22, .int (u_14.2 4 0), .ref g24, .int (u_14.2 5 0), .int (u_14.2 6 0), .int (u_14.2 7 0), .ref g28, .ref g29, .int (u_14.2 8 0), .int (u_14.2 9 0)]))] := hD
      have hq_655 := hw
      refine W.widen (k := 258) (n := 111962) (by decide) (by decide) ?_
      refine lv_istore (lv' := [(6, .int r_13), (5, .int 1), (4, .int 0), (3, .ref ou), (2, .ref mo), (1, .ref h0), (0, .ref b)]) hx hb dL_law_658 hl (by decide) rfl (fun ls hl => ?_)
      refine lv_aload_n hx hb dL_law_660 rfl (lv_at hl 4 rfl) ?_
      have hPc := hP.sub (ws' := [(mo, .inr (9, [.int (u_14.2 0 0), .int (u_14.2 1 0), .ref g2, .ref g3, .ref g4, .ref g5, .ref g6, .ref g7, .ref g8, .ref g9, .ref g10, .ref g11, .ref g12, .ref g13, .ref g14, .ref g15, .ref g16, .ref g17, .ref g18, .ref g19, .int (u_14.2 2 0), .int (u_14.2 3 0), .ref g22, .int (u_14.2 4 0), .ref g24, .int (u_14.2 5 0), .int (u_14.2 6 0), .int (u_14.2 7 0), .ref g28, .ref g29, .int (u_14.2 8 0), .int (u_14.2 9 0)]))]) [1] rfl
      have hDc := hD.sub (ws' := [(mo, .inr (9, [.int (u_14.2 0 0), .int (u_14.2 1 0), .ref g2, .ref g3, .ref g4, .ref g5, .ref g6, .ref g7, .ref g8, .ref g9, .ref g10, .ref g11, .ref g12, .ref g13, .ref g14, .ref g15, .ref g16, .ref g17, .ref g18, .ref g19, .int (u_14.2 2 0), .int (u_14.2 3 0), .ref g22, .int (u_14.2 4 0), .ref g24, .int (u_14.2 5 0), .int (u_14.2 6 0), .int (u_14.2 7 0), .ref g28, .ref g29, .int (u_14.2 8 0), .int (u_14.2 9 0)]))]) [1] (by decide) rfl
      have hFc := va_free (wc := [(mo, .inr (9, [.int (u_14.2 0 0), .int (u_14.2 1 0), .ref g2, .ref g3, .ref g4, .ref g5, .ref g6, .ref g7, .ref g8, .ref g9, .ref g10, .ref g11, .ref g12, .ref g13, .ref g14, .ref g15, .ref g16, .ref g17, .ref g18, .ref g19, .int (u_14.2 2 0), .int (u_14.2 3 0), .ref g22, .int (u_14.2 4 0), .ref g24, .int (u_14.2 5 0), .int (u_14.2 6 0), .int (u_14.2 7 0), .ref g28, .ref g29, .int (u_14.2 8 0), .int (u_14.2 9 0)]))]) hD hS hA [1] rfl
      refine va_calli (va_runV (As := []) (rest := []) ⟨hx, hb, hml, hown, ht⟩ (k9_thrown l D C s.heap.size H.size mo g2 g3 g4 g5 g6 g7 g8 g9 g10 g11 g12 g13 g14 g15 g16 g17 g18 g19 g22 g24 g28 g29 (u_14.2 0 0) (u_14.2 1 0) (u_14.2 2 0) (u_14.2 3 0) (u_14.2 4 0) (u_14.2 5 0) (u_14.2 6 0) (u_14.2 7 0) (u_14.2 8 0) (u_14.2 9 0)) (cwV 0 ht (xg_V m_562 m_563 m_564 m_391 m_221) rfl rfl rfl (by decide +kernel) ⟨Nat.le_of_ble_eq_true rfl, Nat.le_of_ble_eq_true rfl⟩) ⟨xPc_bl, va_recv hK hPc (ci := 9) (q0 := 0) rfl rfl, xPc_at hPc hK hDc hE hS hAb⟩ rfl rfl hl.1 rfl (lv_room (Nat.le_of_ble_eq_true rfl)) dL_law_661 ⟨(by decide), (by decide)⟩) hS (fun q _ h => hFc q h) hFc (fun r_15 u_16 t H1 locs ht1 hvm hw hB hz1 hk1 hS => ?_)
      obtain ⟨hP1, hD1⟩ := hB
      rw [ht1] at hP1
      try dsimp only at hw
      obtain ⟨hP, hD⟩ := va_join (wr := [(ou, .inl (C 2, 1, .inr (.inl (u_7))))]) (w1 := [(mo, .inr (9, [.int (u_14.2 0 0), .int (u_14.2 1 0), .ref g2, .ref g3, .ref g4, .ref g5, .ref g6, .ref g7, .ref g8, .ref g9, .ref g10, .ref g11, .ref g12, .ref g13, .ref g14, .ref g15, .ref g16, .ref g17, .ref g18, .ref g19, .int (u_14.2 2 0), .int (u_14.2 3 0), .ref g22, .int (u_14.2 4 0), .ref g24, .int (u_14.2 5 0), .int (u_14.2 6 0), .int (u_14.2 7 0), .ref g28, .ref g29, .int (u_14.2 8 0), .int (u_14.2 9 0)]))]) hP hD [1] [0] rfl rfl (by decide) (by decide) hk1 hFc hP1 hD1
      generalize H1 = H at hP hS ⊢
      have hP : va_P D vwCl [(ou, .inl (C 2, 1, .inr (.inl (u_7)))), (mo, .inr (9, [.int (u_14.2 0 0), .int (u_14.2 1 0), .ref g2, .ref g3, .ref g4, .ref g5, .ref g6, .ref g7, .ref g8, .ref g9, .ref g10, .ref g11, .ref g12, .ref g13, .ref g14, .ref g15, .ref g16, .ref g17, .ref g18, .ref g19, .int (u_14.2 2 0), .int (u_14.2 3 0), .ref g22, .int (u_14.2 4 0), .ref g24, .int (u_14.2 5 0), .int (u_14.2 6 0), .int (u_14.2 7 0), .ref g28, .ref g29, .int (u_14.2 8 0), .int (u_14.2 9 0)]))] H := hP
      have hD : va_D A [(ou, .inl (C 2, 1, .inr (.inl (u_7)))), (mo, .inr (9, [.int (u_14.2 0 0), .int (u_14.2 1 0), .ref g2, .ref g3, .ref g4, .ref g5, .ref g6, .ref g7, .ref g8, .ref g9, .ref g10, .ref g11, .ref g12, .ref g13, .ref g14, .ref g15, .ref g16, .ref g17, .ref g18, .ref g19, .int (u_14.2 2 0), .int (u_14.2 3 0), .ref g22, .int (u_14.2 4 0), .ref g24, .int (u_14.2 5 0), .int (u_14.2 6 0), .int (u_14.2 7 0), .ref g28, .ref g29, .int (u_14.2 8 0), .int (u_14.2 9 0)]))] := hD
      have hq_661 := hw
      obtain rfl : r_15 = (1 : Int32) := hw.trans hq_655
      refine lv_iload hx hb dL_law_664 (lv_at hl 1 rfl) ?_
      refine lv_icmp_eq (tgt := 671) hx hb dL_law_666 (by decide) (fun c_666 => ?_) (fun c_666 => ?_)
      rotate_left
      · exact absurd c_666 (by decide)
      refine lv_iload hx hb dL_law_671 (lv_at hl 1 rfl) ?_
      refine lv_if_ne (tgt := 695) hx hb dL_law_673 (by decide) (fun c_673 => ?_) (fun c_673 => ?_)
      rotate_left
      · exact absurd c_673 (by decide)
      refine lv_goto (tgt := 1732) hx hb dL_law_695 (by decide) ?_
      exact lc_end ⟨hl0, hx, hb, hr, hml, hown, ht, hX, hbl, hlocks, hK, hE, hA, hAs, hbA⟩ (by decide) (by decide) hS (lv_sub hl [2, 6] rfl)
    · skip
      refine lv_iconst (v := 1) hx hb dL_law_650 (by decide) ?_
      refine lv_goto (tgt := 655) hx hb dL_law_651 (by decide) ?_
      have hPc := hP.sub (ws' := [(mo, .inr (9, [.int 0, .int 0, .ref g2, .ref g3, .ref g4, .ref g5, .ref g6, .ref g7, .ref g8, .ref g9, .ref g10, .ref g11, .ref g12, .ref g13, .ref g14, .ref g15, .ref g16, .ref g17, .ref g18, .ref g19, .int 0, .int 0, .ref g22, .int 0, .ref g24, .int 0, .int 0, .int (-1), .ref g28, .ref g29, .int 0, .int 0]))]) [0] rfl
      have hDc := hD.sub (ws' := [(mo, .inr (9, [.int 0, .int 0, .ref g2, .ref g3, .ref g4, .ref g5, .ref g6, .ref g7, .ref g8, .ref g9, .ref g10, .ref g11, .ref g12, .ref g13, .ref g14, .ref g15, .ref g16, .ref g17, .ref g18, .ref g19, .int 0, .int 0, .ref g22, .int 0, .ref g24, .int 0, .int 0, .int (-1), .ref g28, .ref g29, .int 0, .int 0]))]) [0] (by decide) rfl
      have hFc := va_free (wc := [(mo, .inr (9, [.int 0, .int 0, .ref g2, .ref g3, .ref g4, .ref g5, .ref g6, .ref g7, .ref g8, .ref g9, .ref g10, .ref g11, .ref g12, .ref g13, .ref g14, .ref g15, .ref g16, .ref g17, .ref g18, .ref g19, .int 0, .int 0, .ref g22, .int 0, .ref g24, .int 0, .int 0, .int (-1), .ref g28, .ref g29, .int 0, .int 0]))]) hD hS hA [0] rfl
      refine va_calli (vx_runVW (As := [.int (xs (Int32.toNatClampNeg 1)), .int (xs (Int32.toNatClampNeg 2)), .int (xs (Int32.toNatClampNeg 3)), .int (xs (Int32.toNatClampNeg 4)), .int 1]) (rest := []) ⟨hx, hb, hml, hown, ht⟩ (k9p_set l D C s.heap.size H.size mo g2 g3 g4 g5 g6 g7 g8 g9 g10 g11 g12 g13 g14 g15 g16 g17 g18 g19 g22 g24 g28 g29 ((xs (Int32.toNatClampNeg 1))) ((xs (Int32.toNatClampNeg 2))) ((xs (Int32.toNatClampNeg 3))) ((xs (Int32.toNatClampNeg 4))) 1) (vx_cwVW 5 ht (xg_V m_592 m_593 m_594 m_391 m_231) rfl rfl rfl (by decide +kernel) ⟨Nat.le_of_ble_eq_true rfl, Nat.le_of_ble_eq_true rfl⟩) ⟨xPc_bl, va_recv hK hPc (ci := 9) (q0 := 0) rfl rfl, xPc_at hPc hK hDc hE hS hAb⟩ rfl rfl hl.1 rfl (lv_room (Nat.le_of_ble_eq_true rfl)) dL_law_655 ⟨(by decide), (by decide)⟩) hS (fun q _ h => hFc q h) hFc (fun r_17 u_18 t H1 locs ht1 hvm hw hB hz1 hk1 hS => ?_)
      obtain ⟨hP1, hD1⟩ := hB
      rw [ht1] at hP1
      try dsimp only at hw
      obtain ⟨hP, hD⟩ := va_join (wr := [(ou, .inl (C 2, 1, .inr (.inl (u_7))))]) (w1 := [(mo, .inr (9, [.int (u_18.2 0 0), .int (u_18.2 1 0), .ref g2, .ref g3, .ref g4, .ref g5, .ref g6, .ref g7, .ref g8, .ref g9, .ref g10, .ref g11, .ref g12, .ref g13, .ref g14, .ref g15, .ref g16, .ref g17, .ref g18, .ref g19, .int (u_18.2 2 0), .int (u_18.2 3 0), .ref g22, .int (u_18.2 4 0), .ref g24, .int (u_18.2 5 0), .int (u_18.2 6 0), .int (u_18.2 7 0), .ref g28, .ref g29, .int (u_18.2 8 0), .int (u_18.2 9 0)]))]) hP hD [0] [1] rfl rfl (by decide) (by decide) hk1 hFc hP1 hD1
      generalize H1 = H at hP hS ⊢
      have hP : va_P D vwCl [(ou, .inl (C 2, 1, .inr (.inl (u_7)))), (mo, .inr (9, [.int (u_18.2 0 0), .int (u_18.2 1 0), .ref g2, .ref g3, .ref g4, .ref g5, .ref g6, .ref g7, .ref g8, .ref g9, .ref g10, .ref g11, .ref g12, .ref g13, .ref g14, .ref g15, .ref g16, .ref g17, .ref g18, .ref g19, .int (u_18.2 2 0), .int (u_18.2 3 0), .ref g22, .int (u_18.2 4 0), .ref g24, .int (u_18.2 5 0), .int (u_18.2 6 0), .int (u_18.2 7 0), .ref g28, .ref g29, .int (u_18.2 8 0), .int (u_18.2 9 0)]))] H := hP
      have hD : va_D A [(ou, .inl (C 2, 1, .inr (.inl (u_7)))), (mo, .inr (9, [.int (u_18.2 0 0), .int (u_18.2 1 0), .ref g2, .ref g3, .ref g4, .ref g5, .ref g6, .ref g7, .ref g8, .ref g9, .ref g10, .ref g11, .ref g12, .ref g13, .ref g14, .ref g15, .ref g16, .ref g17, .ref g18, .ref g19, .int (u_18.2 2 0), .int (u_18.2 3 0), .ref g22, .int (u_18.2 4 0), .ref g24, .int (u_18.2 5 0), .int (u_18.2 6 0), .int (u_18.2 7 0), .ref g28, .ref g29, .int (u_18.2 8 0), .int (u_18.2 9 0)]))] := hD
      have hq_655 := hw
      refine W.widen (k := 258) (n := 111962) (by decide) (by decide) ?_
      refine lv_istore (lv' := [(6, .int r_17), (5, .int 1), (4, .int 0), (3, .ref ou), (2, .ref mo), (1, .ref h0), (0, .ref b)]) hx hb dL_law_658 hl (by decide) rfl (fun ls hl => ?_)
      refine lv_aload_n hx hb dL_law_660 rfl (lv_at hl 4 rfl) ?_
      have hPc := hP.sub (ws' := [(mo, .inr (9, [.int (u_18.2 0 0), .int (u_18.2 1 0), .ref g2, .ref g3, .ref g4, .ref g5, .ref g6, .ref g7, .ref g8, .ref g9, .ref g10, .ref g11, .ref g12, .ref g13, .ref g14, .ref g15, .ref g16, .ref g17, .ref g18, .ref g19, .int (u_18.2 2 0), .int (u_18.2 3 0), .ref g22, .int (u_18.2 4 0), .ref g24, .int (u_18.2 5 0), .int (u_18.2 6 0), .int (u_18.2 7 0), .ref g28, .ref g29, .int (u_18.2 8 0), .int (u_18.2 9 0)]))]) [1] rfl
      have hDc := hD.sub (ws' := [(mo, .inr (9, [.int (u_18.2 0 0), .int (u_18.2 1 0), .ref g2, .ref g3, .ref g4, .ref g5, .ref g6, .ref g7, .ref g8, .ref g9, .ref g10, .ref g11, .ref g12, .ref g13, .ref g14, .ref g15, .ref g16, .ref g17, .ref g18, .ref g19, .int (u_18.2 2 0), .int (u_18.2 3 0), .ref g22, .int (u_18.2 4 0), .ref g24, .int (u_18.2 5 0), .int (u_18.2 6 0), .int (u_18.2 7 0), .ref g28, .ref g29, .int (u_18.2 8 0), .int (u_18.2 9 0)]))]) [1] (by decide) rfl
      have hFc := va_free (wc := [(mo, .inr (9, [.int (u_18.2 0 0), .int (u_18.2 1 0), .ref g2, .ref g3, .ref g4, .ref g5, .ref g6, .ref g7, .ref g8, .ref g9, .ref g10, .ref g11, .ref g12, .ref g13, .ref g14, .ref g15, .ref g16, .ref g17, .ref g18, .ref g19, .int (u_18.2 2 0), .int (u_18.2 3 0), .ref g22, .int (u_18.2 4 0), .ref g24, .int (u_18.2 5 0), .int (u_18.2 6 0), .int (u_18.2 7 0), .ref g28, .ref g29, .int (u_18.2 8 0), .int (u_18.2 9 0)]))]) hD hS hA [1] rfl
      refine va_calli (va_runV (As := []) (rest := []) ⟨hx, hb, hml, hown, ht⟩ (k9_thrown l D C s.heap.size H.size mo g2 g3 g4 g5 g6 g7 g8 g9 g10 g11 g12 g13 g14 g15 g16 g17 g18 g19 g22 g24 g28 g29 (u_18.2 0 0) (u_18.2 1 0) (u_18.2 2 0) (u_18.2 3 0) (u_18.2 4 0) (u_18.2 5 0) (u_18.2 6 0) (u_18.2 7 0) (u_18.2 8 0) (u_18.2 9 0)) (cwV 0 ht (xg_V m_562 m_563 m_564 m_391 m_221) rfl rfl rfl (by decide +kernel) ⟨Nat.le_of_ble_eq_true rfl, Nat.le_of_ble_eq_true rfl⟩) ⟨xPc_bl, va_recv hK hPc (ci := 9) (q0 := 0) rfl rfl, xPc_at hPc hK hDc hE hS hAb⟩ rfl rfl hl.1 rfl (lv_room (Nat.le_of_ble_eq_true rfl)) dL_law_661 ⟨(by decide), (by decide)⟩) hS (fun q _ h => hFc q h) hFc (fun r_19 u_20 t H1 locs ht1 hvm hw hB hz1 hk1 hS => ?_)
      obtain ⟨hP1, hD1⟩ := hB
      rw [ht1] at hP1
      try dsimp only at hw
      obtain ⟨hP, hD⟩ := va_join (wr := [(ou, .inl (C 2, 1, .inr (.inl (u_7))))]) (w1 := [(mo, .inr (9, [.int (u_18.2 0 0), .int (u_18.2 1 0), .ref g2, .ref g3, .ref g4, .ref g5, .ref g6, .ref g7, .ref g8, .ref g9, .ref g10, .ref g11, .ref g12, .ref g13, .ref g14, .ref g15, .ref g16, .ref g17, .ref g18, .ref g19, .int (u_18.2 2 0), .int (u_18.2 3 0), .ref g22, .int (u_18.2 4 0), .ref g24, .int (u_18.2 5 0), .int (u_18.2 6 0), .int (u_18.2 7 0), .ref g28, .ref g29, .int (u_18.2 8 0), .int (u_18.2 9 0)]))]) hP hD [1] [0] rfl rfl (by decide) (by decide) hk1 hFc hP1 hD1
      generalize H1 = H at hP hS ⊢
      have hP : va_P D vwCl [(ou, .inl (C 2, 1, .inr (.inl (u_7)))), (mo, .inr (9, [.int (u_18.2 0 0), .int (u_18.2 1 0), .ref g2, .ref g3, .ref g4, .ref g5, .ref g6, .ref g7, .ref g8, .ref g9, .ref g10, .ref g11, .ref g12, .ref g13, .ref g14, .ref g15, .ref g16, .ref g17, .ref g18, .ref g19, .int (u_18.2 2 0), .int (u_18.2 3 0), .ref g22, .int (u_18.2 4 0), .ref g24, .int (u_18.2 5 0), .int (u_18.2 6 0), .int (u_18.2 7 0), .ref g28, .ref g29, .int (u_18.2 8 0), .int (u_18.2 9 0)]))] H := hP
      have hD : va_D A [(ou, .inl (C 2, 1, .inr (.inl (u_7)))), (mo, .inr (9, [.int (u_18.2 0 0), .int (u_18.2 1 0), .ref g2, .ref g3, .ref g4, .ref g5, .ref g6, .ref g7, .ref g8, .ref g9, .ref g10, .ref g11, .ref g12, .ref g13, .ref g14, .ref g15, .ref g16, .ref g17, .ref g18, .ref g19, .int (u_18.2 2 0), .int (u_18.2 3 0), .ref g22, .int (u_18.2 4 0), .ref g24, .int (u_18.2 5 0), .int (u_18.2 6 0), .int (u_18.2 7 0), .ref g28, .ref g29, .int (u_18.2 8 0), .int (u_18.2 9 0)]))] := hD
      have hq_661 := hw
      obtain rfl : r_19 = (1 : Int32) := hw.trans hq_655
      refine lv_iload hx hb dL_law_664 (lv_at hl 1 rfl) ?_
      refine lv_icmp_eq (tgt := 671) hx hb dL_law_666 (by decide) (fun c_666 => ?_) (fun c_666 => ?_)
      rotate_left
      · exact absurd c_666 (by decide)
      refine lv_iload hx hb dL_law_671 (lv_at hl 1 rfl) ?_
      refine lv_if_ne (tgt := 695) hx hb dL_law_673 (by decide) (fun c_673 => ?_) (fun c_673 => ?_)
      rotate_left
      · exact absurd c_673 (by decide)
      refine lv_goto (tgt := 1732) hx hb dL_law_695 (by decide) ?_
      exact lc_end ⟨hl0, hx, hb, hr, hml, hown, ht, hX, hbl, hlocks, hK, hE, hA, hAs, hbA⟩ (by decide) (by decide) hS (lv_sub hl [2, 6] rfl)
  · skip
    refine lv_iconst (v := 1) hx hb dL_law_605 (by decide) ?_
    refine lv_goto (tgt := 610) hx hb dL_law_606 (by decide) ?_
    refine lv_aload_n hx hb dL_law_610 rfl (lv_at hl 1 rfl) ?_
    have hPc := hP.sub (ws' := [(h0, .inr (5, [.ref s0, .ref de, .ref kl, .ref tl, .ref cu, .ref hk, .ref ca, .int 0, .int 0, .int (-1), .int 0, .int 0])), (kl, .inr (2, [.ref kx, .ref ky, .int 0])), (tl, .inr (4, [.ref tx, .ref ty, .int 1])), (s0, .inr (3, [.ref a0, .ref a1, .ref a2, .ref a3, .ref a4, .ref a5, .ref a6, .int 0, .ref a7, .ref a8, .ref a9, .ref a10, .ref a11, .int 0])), (ou, .inl (C 2, 1, .inr (.inl fo)))]) [0, 1, 2, 3, 4] rfl
    have hDc := hD.sub (ws' := [(h0, .inr (5, [.ref s0, .ref de, .ref kl, .ref tl, .ref cu, .ref hk, .ref ca, .int 0, .int 0, .int (-1), .int 0, .int 0])), (kl, .inr (2, [.ref kx, .ref ky, .int 0])), (tl, .inr (4, [.ref tx, .ref ty, .int 1])), (s0, .inr (3, [.ref a0, .ref a1, .ref a2, .ref a3, .ref a4, .ref a5, .ref a6, .int 0, .ref a7, .ref a8, .ref a9, .ref a10, .ref a11, .int 0])), (ou, .inl (C 2, 1, .inr (.inl fo)))]) [0, 1, 2, 3, 4] (by decide) rfl
    have hFc := va_free (wc := [(h0, .inr (5, [.ref s0, .ref de, .ref kl, .ref tl, .ref cu, .ref hk, .ref ca, .int 0, .int 0, .int (-1), .int 0, .int 0])), (kl, .inr (2, [.ref kx, .ref ky, .int 0])), (tl, .inr (4, [.ref tx, .ref ty, .int 1])), (s0, .inr (3, [.ref a0, .ref a1, .ref a2, .ref a3, .ref a4, .ref a5, .ref a6, .int 0, .ref a7, .ref a8, .ref a9, .ref a10, .ref a11, .int 0])), (ou, .inl (C 2, 1, .inr (.inl fo)))]) hD hS hA [0, 1, 2, 3, 4] rfl
    refine va_calli (vx_runSW (As := [.ref h0, .int (xs (Int32.toNatClampNeg 1)), .int (xs (Int32.toNatClampNeg 2)), .int (xs (Int32.toNatClampNeg 3)), .int (xs (Int32.toNatClampNeg 4)), .int 1, .ref ou]) (rest := []) ⟨hx, hb, hml, hown, ht⟩ (kL_set l hl0 D C s.heap.size H.size h0 s0 de kl tl cu hk ca kx ky tx ty a0 a1 a2 a3 a4 a5 a6 a7 a8 a9 a10 a11 ((xs (Int32.toNatClampNeg 1))) ((xs (Int32.toNatClampNeg 2))) ((xs (Int32.toNatClampNeg 3))) ((xs (Int32.toNatClampNeg 4))) 1 ou fo) (vx_cwSW 7 ht (xg_T m_590 m_591 m_558 m_475) rfl rfl rfl (by decide +kernel) ⟨Nat.le_of_ble_eq_true rfl, Nat.le_of_ble_eq_true rfl⟩) ⟨xPc_bl, xPc_at hPc hK hDc hE hS hAb⟩ rfl rfl hl.1 rfl (lv_room (Nat.le_of_ble_eq_true rfl)) dL_law_611 ⟨(by decide), (by decide)⟩) hS (fun q _ h => hFc q h) hFc (fun r_21 u_22 t H1 locs ht1 hvm hw hB hz1 hk1 hS => ?_)
    obtain ⟨hP1, hD1⟩ := hB
    rw [ht1] at hP1
    try dsimp only at hw
    obtain ⟨hP, hD⟩ := va_join (wr := [(mo, .inr (9, [.int 0, .int 0, .ref g2, .ref g3, .ref g4, .ref g5, .ref g6, .ref g7, .ref g8, .ref g9, .ref g10, .ref g11, .ref g12, .ref g13, .ref g14, .ref g15, .ref g16, .ref g17, .ref g18, .ref g19, .int 0, .int 0, .ref g22, .int 0, .ref g24, .int 0, .int 0, .int (-1), .ref g28, .ref g29, .int 0, .int 0]))]) (w1 := [(ou, .inl (C 2, 1, .inr (.inl (u_22))))]) hP hD [0, 1, 2, 3, 4] [5] rfl rfl (by decide) (by decide) hk1 hFc hP1 hD1
    generalize H1 = H at hP hS ⊢
    have hP : va_P D vwCl [(mo, .inr (9, [.int 0, .int 0, .ref g2, .ref g3, .ref g4, .ref g5, .ref g6, .ref g7, .ref g8, .ref g9, .ref g10, .ref g11, .ref g12, .ref g13, .ref g14, .ref g15, .ref g16, .ref g17, .ref g18, .ref g19, .int 0, .int 0, .ref g22, .int 0, .ref g24, .int 0, .int 0, .int (-1), .ref g28, .ref g29, .int 0, .int 0])), (ou, .inl (C 2, 1, .inr (.inl (u_22))))] H := hP
    have hD : va_D A [(mo, .inr (9, [.int 0, .int 0, .ref g2, .ref g3, .ref g4, .ref g5, .ref g6, .ref g7, .ref g8, .ref g9, .ref g10, .ref g11, .ref g12, .ref g13, .ref g14, .ref g15, .ref g16, .ref g17, .ref g18, .ref g19, .int 0, .int 0, .ref g22, .int 0, .ref g24, .int 0, .int 0, .int (-1), .ref g28, .ref g29, .int 0, .int 0])), (ou, .inl (C 2, 1, .inr (.inl (u_22))))] := hD
    have hq_611 := hw
    obtain rfl : r_21 = (1 : Int32) := hw
    refine W.widen (k := 257) (n := 111955) (by decide) (by decide) ?_
    refine lv_istore (lv' := [(5, .int 1), (4, .int 0), (3, .ref ou), (2, .ref mo), (1, .ref h0), (0, .ref b)]) hx hb dL_law_614 hl (by decide) rfl (fun ls hl => ?_)
    refine lv_aload_n hx hb dL_law_616 rfl (lv_at hl 3 rfl) ?_
    refine lv_aload_n hx hb dL_law_617 rfl (lv_at hl 5 rfl) ?_
    refine lv_iload hx hb dL_law_618 (lv_at hl 1 rfl) ?_
    refine lv_iconst (v := 1) hx hb dL_law_620 (by decide) ?_
    refine lv_iadd hx hb dL_law_621 ?_
    refine lv_topi (fun x_23 ex_23 => ?_)
    obtain rfl : x_23 = (1 : Int32) := ex_23.trans (by decide)
    refine va_sld hx hb hX hbl hbA hS (by unfold vp_in; decide) dL_law_622 ?_
    refine lv_aload_n hx hb dL_law_623 rfl (lv_at hl 5 rfl) ?_
    refine lv_iload hx hb dL_law_624 (lv_at hl 1 rfl) ?_
    refine lv_iconst (v := 2) hx hb dL_law_626 (by decide) ?_
    refine lv_iadd hx hb dL_law_627 ?_
    refine lv_topi (fun x_24 ex_24 => ?_)
    obtain rfl : x_24 = (2 : Int32) := ex_24.trans (by decide)
    refine va_sld hx hb hX hbl hbA hS (by unfold vp_in; decide) dL_law_628 ?_
    refine lv_aload_n hx hb dL_law_629 rfl (lv_at hl 5 rfl) ?_
    refine lv_iload hx hb dL_law_630 (lv_at hl 1 rfl) ?_
    refine lv_iconst (v := 3) hx hb dL_law_632 (by decide) ?_
    refine lv_iadd hx hb dL_law_633 ?_
    refine lv_topi (fun x_25 ex_25 => ?_)
    obtain rfl : x_25 = (3 : Int32) := ex_25.trans (by decide)
    refine va_sld hx hb hX hbl hbA hS (by unfold vp_in; decide) dL_law_634 ?_
    refine lv_aload_n hx hb dL_law_635 rfl (lv_at hl 5 rfl) ?_
    refine lv_iload hx hb dL_law_636 (lv_at hl 1 rfl) ?_
    refine lv_iconst (v := 4) hx hb dL_law_638 (by decide) ?_
    refine lv_iadd hx hb dL_law_639 ?_
    refine lv_topi (fun x_26 ex_26 => ?_)
    obtain rfl : x_26 = (4 : Int32) := ex_26.trans (by decide)
    refine va_sld hx hb hX hbl hbA hS (by unfold vp_in; decide) dL_law_640 ?_
    refine lv_aload_n hx hb dL_law_641 rfl (lv_at hl 5 rfl) ?_
    refine lv_iload hx hb dL_law_642 (lv_at hl 1 rfl) ?_
    refine lv_iconst (v := 5) hx hb dL_law_644 (by decide) ?_
    refine lv_iadd hx hb dL_law_645 ?_
    refine lv_topi (fun x_27 ex_27 => ?_)
    obtain rfl : x_27 = (5 : Int32) := ex_27.trans (by decide)
    refine va_sld hx hb hX hbl hbA hS (by unfold vp_in; decide) dL_law_646 ?_
    refine lv_if_eq (tgt := 654) hx hb dL_law_647 (by decide) (fun c_647 => ?_) (fun c_647 => ?_)
    · skip
      refine lv_iconst (v := 0) hx hb dL_law_654 (by decide) ?_
      have hPc := hP.sub (ws' := [(mo, .inr (9, [.int 0, .int 0, .ref g2, .ref g3, .ref g4, .ref g5, .ref g6, .ref g7, .ref g8, .ref g9, .ref g10, .ref g11, .ref g12, .ref g13, .ref g14, .ref g15, .ref g16, .ref g17, .ref g18, .ref g19, .int 0, .int 0, .ref g22, .int 0, .ref g24, .int 0, .int 0, .int (-1), .ref g28, .ref g29, .int 0, .int 0]))]) [0] rfl
      have hDc := hD.sub (ws' := [(mo, .inr (9, [.int 0, .int 0, .ref g2, .ref g3, .ref g4, .ref g5, .ref g6, .ref g7, .ref g8, .ref g9, .ref g10, .ref g11, .ref g12, .ref g13, .ref g14, .ref g15, .ref g16, .ref g17, .ref g18, .ref g19, .int 0, .int 0, .ref g22, .int 0, .ref g24, .int 0, .int 0, .int (-1), .ref g28, .ref g29, .int 0, .int 0]))]) [0] (by decide) rfl
      have hFc := va_free (wc := [(mo, .inr (9, [.int 0, .int 0, .ref g2, .ref g3, .ref g4, .ref g5, .ref g6, .ref g7, .ref g8, .ref g9, .ref g10, .ref g11, .ref g12, .ref g13, .ref g14, .ref g15, .ref g16, .ref g17, .ref g18, .ref g19, .int 0, .int 0, .ref g22, .int 0, .ref g24, .int 0, .int 0, .int (-1), .ref g28, .ref g29, .int 0, .int 0]))]) hD hS hA [0] rfl
      refine va_calli (vx_runVW (As := [.int (xs (Int32.toNatClampNeg 1)), .int (xs (Int32.toNatClampNeg 2)), .int (xs (Int32.toNatClampNeg 3)), .int (xs (Int32.toNatClampNeg 4)), .int 0]) (rest := []) ⟨hx, hb, hml, hown, ht⟩ (k9p_set l D C s.heap.size H.size mo g2 g3 g4 g5 g6 g7 g8 g9 g10 g11 g12 g13 g14 g15 g16 g17 g18 g19 g22 g24 g28 g29 ((xs (Int32.toNatClampNeg 1))) ((xs (Int32.toNatClampNeg 2))) ((xs (Int32.toNatClampNeg 3))) ((xs (Int32.toNatClampNeg 4))) 0) (vx_cwVW 5 ht (xg_V m_592 m_593 m_594 m_391 m_231) rfl rfl rfl (by decide +kernel) ⟨Nat.le_of_ble_eq_true rfl, Nat.le_of_ble_eq_true rfl⟩) ⟨xPc_bl, va_recv hK hPc (ci := 9) (q0 := 0) rfl rfl, xPc_at hPc hK hDc hE hS hAb⟩ rfl rfl hl.1 rfl (lv_room (Nat.le_of_ble_eq_true rfl)) dL_law_655 ⟨(by decide), (by decide)⟩) hS (fun q _ h => hFc q h) hFc (fun r_28 u_29 t H1 locs ht1 hvm hw hB hz1 hk1 hS => ?_)
      obtain ⟨hP1, hD1⟩ := hB
      rw [ht1] at hP1
      try dsimp only at hw
      obtain ⟨hP, hD⟩ := va_join (wr := [(ou, .inl (C 2, 1, .inr (.inl (u_22))))]) (w1 := [(mo, .inr (9, [.int (u_29.2 0 0), .int (u_29.2 1 0), .ref g2, .ref g3, .ref g4, .ref g5, .ref g6, .ref g7, .ref g8, .ref g9, .ref g10, .ref g11, .ref g12, .ref g13, .ref g14, .ref g15, .ref g16, .ref g17, .ref g18, .ref g19, .int (u_29.2 2 0), .int (u_29.2 3 0), .ref g22, .int (u_29.2 4 0), .ref g24, .int (u_29.2 5 0), .int (u_29.2 6 0), .int (u_29.2 7 0), .ref g28, .ref g29, .int (u_29.2 8 0), .int (u_29.2 9 0)]))]) hP hD [0] [1] rfl rfl (by decide) (by decide) hk1 hFc hP1 hD1
      generalize H1 = H at hP hS ⊢
      have hP : va_P D vwCl [(ou, .inl (C 2, 1, .inr (.inl (u_22)))), (mo, .inr (9, [.int (u_29.2 0 0), .int (u_29.2 1 0), .ref g2, .ref g3, .ref g4, .ref g5, .ref g6, .ref g7, .ref g8, .ref g9, .ref g10, .ref g11, .ref g12, .ref g13, .ref g14, .ref g15, .ref g16, .ref g17, .ref g18, .ref g19, .int (u_29.2 2 0), .int (u_29.2 3 0), .ref g22, .int (u_29.2 4 0), .ref g24, .int (u_29.2 5 0), .int (u_29.2 6 0), .int (u_29.2 7 0), .ref g28, .ref g29, .int (u_29.2 8 0), .int (u_29.2 9 0)]))] H := hP
      have hD : va_D A [(ou, .inl (C 2, 1, .inr (.inl (u_22)))), (mo, .inr (9, [.int (u_29.2 0 0), .int (u_29.2 1 0), .ref g2, .ref g3, .ref g4, .ref g5, .ref g6, .ref g7, .ref g8, .ref g9, .ref g10, .ref g11, .ref g12, .ref g13, .ref g14, .ref g15, .ref g16, .ref g17, .ref g18, .ref g19, .int (u_29.2 2 0), .int (u_29.2 3 0), .ref g22, .int (u_29.2 4 0), .ref g24, .int (u_29.2 5 0), .int (u_29.2 6 0), .int (u_29.2 7 0), .ref g28, .ref g29, .int (u_29.2 8 0), .int (u_29.2 9 0)]))] := hD
      have hq_655 := hw
      refine W.widen (k := 258) (n := 111962) (by decide) (by decide) ?_
      refine lv_istore (lv' := [(6, .int r_28), (5, .int 1), (4, .int 0), (3, .ref ou), (2, .ref mo), (1, .ref h0), (0, .ref b)]) hx hb dL_law_658 hl (by decide) rfl (fun ls hl => ?_)
      refine lv_aload_n hx hb dL_law_660 rfl (lv_at hl 4 rfl) ?_
      have hPc := hP.sub (ws' := [(mo, .inr (9, [.int (u_29.2 0 0), .int (u_29.2 1 0), .ref g2, .ref g3, .ref g4, .ref g5, .ref g6, .ref g7, .ref g8, .ref g9, .ref g10, .ref g11, .ref g12, .ref g13, .ref g14, .ref g15, .ref g16, .ref g17, .ref g18, .ref g19, .int (u_29.2 2 0), .int (u_29.2 3 0), .ref g22, .int (u_29.2 4 0), .ref g24, .int (u_29.2 5 0), .int (u_29.2 6 0), .int (u_29.2 7 0), .ref g28, .ref g29, .int (u_29.2 8 0), .int (u_29.2 9 0)]))]) [1] rfl
      have hDc := hD.sub (ws' := [(mo, .inr (9, [.int (u_29.2 0 0), .int (u_29.2 1 0), .ref g2, .ref g3, .ref g4, .ref g5, .ref g6, .ref g7, .ref g8, .ref g9, .ref g10, .ref g11, .ref g12, .ref g13, .ref g14, .ref g15, .ref g16, .ref g17, .ref g18, .ref g19, .int (u_29.2 2 0), .int (u_29.2 3 0), .ref g22, .int (u_29.2 4 0), .ref g24, .int (u_29.2 5 0), .int (u_29.2 6 0), .int (u_29.2 7 0), .ref g28, .ref g29, .int (u_29.2 8 0), .int (u_29.2 9 0)]))]) [1] (by decide) rfl
      have hFc := va_free (wc := [(mo, .inr (9, [.int (u_29.2 0 0), .int (u_29.2 1 0), .ref g2, .ref g3, .ref g4, .ref g5, .ref g6, .ref g7, .ref g8, .ref g9, .ref g10, .ref g11, .ref g12, .ref g13, .ref g14, .ref g15, .ref g16, .ref g17, .ref g18, .ref g19, .int (u_29.2 2 0), .int (u_29.2 3 0), .ref g22, .int (u_29.2 4 0), .ref g24, .int (u_29.2 5 0), .int (u_29.2 6 0), .int (u_29.2 7 0), .ref g28, .ref g29, .int (u_29.2 8 0), .int (u_29.2 9 0)]))]) hD hS hA [1] rfl
      refine va_calli (va_runV (As := []) (rest := []) ⟨hx, hb, hml, hown, ht⟩ (k9_thrown l D C s.heap.size H.size mo g2 g3 g4 g5 g6 g7 g8 g9 g10 g11 g12 g13 g14 g15 g16 g17 g18 g19 g22 g24 g28 g29 (u_29.2 0 0) (u_29.2 1 0) (u_29.2 2 0) (u_29.2 3 0) (u_29.2 4 0) (u_29.2 5 0) (u_29.2 6 0) (u_29.2 7 0) (u_29.2 8 0) (u_29.2 9 0)) (cwV 0 ht (xg_V m_562 m_563 m_564 m_391 m_221) rfl rfl rfl (by decide +kernel) ⟨Nat.le_of_ble_eq_true rfl, Nat.le_of_ble_eq_true rfl⟩) ⟨xPc_bl, va_recv hK hPc (ci := 9) (q0 := 0) rfl rfl, xPc_at hPc hK hDc hE hS hAb⟩ rfl rfl hl.1 rfl (lv_room (Nat.le_of_ble_eq_true rfl)) dL_law_661 ⟨(by decide), (by decide)⟩) hS (fun q _ h => hFc q h) hFc (fun r_30 u_31 t H1 locs ht1 hvm hw hB hz1 hk1 hS => ?_)
      obtain ⟨hP1, hD1⟩ := hB
      rw [ht1] at hP1
      try dsimp only at hw
      obtain ⟨hP, hD⟩ := va_join (wr := [(ou, .inl (C 2, 1, .inr (.inl (u_22))))]) (w1 := [(mo, .inr (9, [.int (u_29.2 0 0), .int (u_29.2 1 0), .ref g2, .ref g3, .ref g4, .ref g5, .ref g6, .ref g7, .ref g8, .ref g9, .ref g10, .ref g11, .ref g12, .ref g13, .ref g14, .ref g15, .ref g16, .ref g17, .ref g18, .ref g19, .int (u_29.2 2 0), .int (u_29.2 3 0), .ref g22, .int (u_29.2 4 0), .ref g24, .int (u_29.2 5 0), .int (u_29.2 6 0), .int (u_29.2 7 0), .ref g28, .ref g29, .int (u_29.2 8 0), .int (u_29.2 9 0)]))]) hP hD [1] [0] rfl rfl (by decide) (by decide) hk1 hFc hP1 hD1
      generalize H1 = H at hP hS ⊢
      have hP : va_P D vwCl [(ou, .inl (C 2, 1, .inr (.inl (u_22)))), (mo, .inr (9, [.int (u_29.2 0 0), .int (u_29.2 1 0), .ref g2, .ref g3, .ref g4, .ref g5, .ref g6, .ref g7, .ref g8, .ref g9, .ref g10, .ref g11, .ref g12, .ref g13, .ref g14, .ref g15, .ref g16, .ref g17, .ref g18, .ref g19, .int (u_29.2 2 0), .int (u_29.2 3 0), .ref g22, .int (u_29.2 4 0), .ref g24, .int (u_29.2 5 0), .int (u_29.2 6 0), .int (u_29.2 7 0), .ref g28, .ref g29, .int (u_29.2 8 0), .int (u_29.2 9 0)]))] H := hP
      have hD : va_D A [(ou, .inl (C 2, 1, .inr (.inl (u_22)))), (mo, .inr (9, [.int (u_29.2 0 0), .int (u_29.2 1 0), .ref g2, .ref g3, .ref g4, .ref g5, .ref g6, .ref g7, .ref g8, .ref g9, .ref g10, .ref g11, .ref g12, .ref g13, .ref g14, .ref g15, .ref g16, .ref g17, .ref g18, .ref g19, .int (u_29.2 2 0), .int (u_29.2 3 0), .ref g22, .int (u_29.2 4 0), .ref g24, .int (u_29.2 5 0), .int (u_29.2 6 0), .int (u_29.2 7 0), .ref g28, .ref g29, .int (u_29.2 8 0), .int (u_29.2 9 0)]))] := hD
      have hq_661 := hw
      obtain rfl : r_30 = (1 : Int32) := hw.trans hq_655
      refine lv_iload hx hb dL_law_664 (lv_at hl 1 rfl) ?_
      refine lv_icmp_eq (tgt := 671) hx hb dL_law_666 (by decide) (fun c_666 => ?_) (fun c_666 => ?_)
      rotate_left
      · exact absurd c_666 (by decide)
      refine lv_iload hx hb dL_law_671 (lv_at hl 1 rfl) ?_
      refine lv_if_ne (tgt := 695) hx hb dL_law_673 (by decide) (fun c_673 => ?_) (fun c_673 => ?_)
      rotate_left
      · exact absurd c_673 (by decide)
      refine lv_goto (tgt := 1732) hx hb dL_law_695 (by decide) ?_
      exact lc_end ⟨hl0, hx, hb, hr, hml, hown, ht, hX, hbl, hlocks, hK, hE, hA, hAs, hbA⟩ (by decide) (by decide) hS (lv_sub hl [2, 6] rfl)
    · skip
      refine lv_iconst (v := 1) hx hb dL_law_650 (by decide) ?_
      refine lv_goto (tgt := 655) hx hb dL_law_651 (by decide) ?_
      have hPc := hP.sub (ws' := [(mo, .inr (9, [.int 0, .int 0, .ref g2, .ref g3, .ref g4, .ref g5, .ref g6, .ref g7, .ref g8, .ref g9, .ref g10, .ref g11, .ref g12, .ref g13, .ref g14, .ref g15, .ref g16, .ref g17, .ref g18, .ref g19, .int 0, .int 0, .ref g22, .int 0, .ref g24, .int 0, .int 0, .int (-1), .ref g28, .ref g29, .int 0, .int 0]))]) [0] rfl
      have hDc := hD.sub (ws' := [(mo, .inr (9, [.int 0, .int 0, .ref g2, .ref g3, .ref g4, .ref g5, .ref g6, .ref g7, .ref g8, .ref g9, .ref g10, .ref g11, .ref g12, .ref g13, .ref g14, .ref g15, .ref g16, .ref g17, .ref g18, .ref g19, .int 0, .int 0, .ref g22, .int 0, .ref g24, .int 0, .int 0, .int (-1), .ref g28, .ref g29, .int 0, .int 0]))]) [0] (by decide) rfl
      have hFc := va_free (wc := [(mo, .inr (9, [.int 0, .int 0, .ref g2, .ref g3, .ref g4, .ref g5, .ref g6, .ref g7, .ref g8, .ref g9, .ref g10, .ref g11, .ref g12, .ref g13, .ref g14, .ref g15, .ref g16, .ref g17, .ref g18, .ref g19, .int 0, .int 0, .ref g22, .int 0, .ref g24, .int 0, .int 0, .int (-1), .ref g28, .ref g29, .int 0, .int 0]))]) hD hS hA [0] rfl
      refine va_calli (vx_runVW (As := [.int (xs (Int32.toNatClampNeg 1)), .int (xs (Int32.toNatClampNeg 2)), .int (xs (Int32.toNatClampNeg 3)), .int (xs (Int32.toNatClampNeg 4)), .int 1]) (rest := []) ⟨hx, hb, hml, hown, ht⟩ (k9p_set l D C s.heap.size H.size mo g2 g3 g4 g5 g6 g7 g8 g9 g10 g11 g12 g13 g14 g15 g16 g17 g18 g19 g22 g24 g28 g29 ((xs (Int32.toNatClampNeg 1))) ((xs (Int32.toNatClampNeg 2))) ((xs (Int32.toNatClampNeg 3))) ((xs (Int32.toNatClampNeg 4))) 1) (vx_cwVW 5 ht (xg_V m_592 m_593 m_594 m_391 m_231) rfl rfl rfl (by decide +kernel) ⟨Nat.le_of_ble_eq_true rfl, Nat.le_of_ble_eq_true rfl⟩) ⟨xPc_bl, va_recv hK hPc (ci := 9) (q0 := 0) rfl rfl, xPc_at hPc hK hDc hE hS hAb⟩ rfl rfl hl.1 rfl (lv_room (Nat.le_of_ble_eq_true rfl)) dL_law_655 ⟨(by decide), (by decide)⟩) hS (fun q _ h => hFc q h) hFc (fun r_32 u_33 t H1 locs ht1 hvm hw hB hz1 hk1 hS => ?_)
      obtain ⟨hP1, hD1⟩ := hB
      rw [ht1] at hP1
      try dsimp only at hw
      obtain ⟨hP, hD⟩ := va_join (wr := [(ou, .inl (C 2, 1, .inr (.inl (u_22))))]) (w1 := [(mo, .inr (9, [.int (u_33.2 0 0), .int (u_33.2 1 0), .ref g2, .ref g3, .ref g4, .ref g5, .ref g6, .ref g7, .ref g8, .ref g9, .ref g10, .ref g11, .ref g12, .ref g13, .ref g14, .ref g15, .ref g16, .ref g17, .ref g18, .ref g19, .int (u_33.2 2 0), .int (u_33.2 3 0), .ref g22, .int (u_33.2 4 0), .ref g24, .int (u_33.2 5 0), .int (u_33.2 6 0), .int (u_33.2 7 0), .ref g28, .ref g29, .int (u_33.2 8 0), .int (u_33.2 9 0)]))]) hP hD [0] [1] rfl rfl (by decide) (by decide) hk1 hFc hP1 hD1
      generalize H1 = H at hP hS ⊢
      have hP : va_P D vwCl [(ou, .inl (C 2, 1, .inr (.inl (u_22)))), (mo, .inr (9, [.int (u_33.2 0 0), .int (u_33.2 1 0), .ref g2, .ref g3, .ref g4, .ref g5, .ref g6, .ref g7, .ref g8, .ref g9, .ref g10, .ref g11, .ref g12, .ref g13, .ref g14, .ref g15, .ref g16, .ref g17, .ref g18, .ref g19, .int (u_33.2 2 0), .int (u_33.2 3 0), .ref g22, .int (u_33.2 4 0), .ref g24, .int (u_33.2 5 0), .int (u_33.2 6 0), .int (u_33.2 7 0), .ref g28, .ref g29, .int (u_33.2 8 0), .int (u_33.2 9 0)]))] H := hP
      have hD : va_D A [(ou, .inl (C 2, 1, .inr (.inl (u_22)))), (mo, .inr (9, [.int (u_33.2 0 0), .int (u_33.2 1 0), .ref g2, .ref g3, .ref g4, .ref g5, .ref g6, .ref g7, .ref g8, .ref g9, .ref g10, .ref g11, .ref g12, .ref g13, .ref g14, .ref g15, .ref g16, .ref g17, .ref g18, .ref g19, .int (u_33.2 2 0), .int (u_33.2 3 0), .ref g22, .int (u_33.2 4 0), .ref g24, .int (u_33.2 5 0), .int (u_33.2 6 0), .int (u_33.2 7 0), .ref g28, .ref g29, .int (u_33.2 8 0), .int (u_33.2 9 0)]))] := hD
      have hq_655 := hw
      refine W.widen (k := 258) (n := 111962) (by decide) (by decide) ?_
      refine lv_istore (lv' := [(6, .int r_32), (5, .int 1), (4, .int 0), (3, .ref ou), (2, .ref mo), (1, .ref h0), (0, .ref b)]) hx hb dL_law_658 hl (by decide) rfl (fun ls hl => ?_)
      refine lv_aload_n hx hb dL_law_660 rfl (lv_at hl 4 rfl) ?_
      have hPc := hP.sub (ws' := [(mo, .inr (9, [.int (u_33.2 0 0), .int (u_33.2 1 0), .ref g2, .ref g3, .ref g4, .ref g5, .ref g6, .ref g7, .ref g8, .ref g9, .ref g10, .ref g11, .ref g12, .ref g13, .ref g14, .ref g15, .ref g16, .ref g17, .ref g18, .ref g19, .int (u_33.2 2 0), .int (u_33.2 3 0), .ref g22, .int (u_33.2 4 0), .ref g24, .int (u_33.2 5 0), .int (u_33.2 6 0), .int (u_33.2 7 0), .ref g28, .ref g29, .int (u_33.2 8 0), .int (u_33.2 9 0)]))]) [1] rfl
      have hDc := hD.sub (ws' := [(mo, .inr (9, [.int (u_33.2 0 0), .int (u_33.2 1 0), .ref g2, .ref g3, .ref g4, .ref g5, .ref g6, .ref g7, .ref g8, .ref g9, .ref g10, .ref g11, .ref g12, .ref g13, .ref g14, .ref g15, .ref g16, .ref g17, .ref g18, .ref g19, .int (u_33.2 2 0), .int (u_33.2 3 0), .ref g22, .int (u_33.2 4 0), .ref g24, .int (u_33.2 5 0), .int (u_33.2 6 0), .int (u_33.2 7 0), .ref g28, .ref g29, .int (u_33.2 8 0), .int (u_33.2 9 0)]))]) [1] (by decide) rfl
      have hFc := va_free (wc := [(mo, .inr (9, [.int (u_33.2 0 0), .int (u_33.2 1 0), .ref g2, .ref g3, .ref g4, .ref g5, .ref g6, .ref g7, .ref g8, .ref g9, .ref g10, .ref g11, .ref g12, .ref g13, .ref g14, .ref g15, .ref g16, .ref g17, .ref g18, .ref g19, .int (u_33.2 2 0), .int (u_33.2 3 0), .ref g22, .int (u_33.2 4 0), .ref g24, .int (u_33.2 5 0), .int (u_33.2 6 0), .int (u_33.2 7 0), .ref g28, .ref g29, .int (u_33.2 8 0), .int (u_33.2 9 0)]))]) hD hS hA [1] rfl
      refine va_calli (va_runV (As := []) (rest := []) ⟨hx, hb, hml, hown, ht⟩ (k9_thrown l D C s.heap.size H.size mo g2 g3 g4 g5 g6 g7 g8 g9 g10 g11 g12 g13 g14 g15 g16 g17 g18 g19 g22 g24 g28 g29 (u_33.2 0 0) (u_33.2 1 0) (u_33.2 2 0) (u_33.2 3 0) (u_33.2 4 0) (u_33.2 5 0) (u_33.2 6 0) (u_33.2 7 0) (u_33.2 8 0) (u_33.2 9 0)) (cwV 0 ht (xg_V m_562 m_563 m_564 m_391 m_221) rfl rfl rfl (by decide +kernel) ⟨Nat.le_of_ble_eq_true rfl, Nat.le_of_ble_eq_true rfl⟩) ⟨xPc_bl, va_recv hK hPc (ci := 9) (q0 := 0) rfl rfl, xPc_at hPc hK hDc hE hS hAb⟩ rfl rfl hl.1 rfl (lv_room (Nat.le_of_ble_eq_true rfl)) dL_law_661 ⟨(by decide), (by decide)⟩) hS (fun q _ h => hFc q h) hFc (fun r_34 u_35 t H1 locs ht1 hvm hw hB hz1 hk1 hS => ?_)
      obtain ⟨hP1, hD1⟩ := hB
      rw [ht1] at hP1
      try dsimp only at hw
      obtain ⟨hP, hD⟩ := va_join (wr := [(ou, .inl (C 2, 1, .inr (.inl (u_22))))]) (w1 := [(mo, .inr (9, [.int (u_33.2 0 0), .int (u_33.2 1 0), .ref g2, .ref g3, .ref g4, .ref g5, .ref g6, .ref g7, .ref g8, .ref g9, .ref g10, .ref g11, .ref g12, .ref g13, .ref g14, .ref g15, .ref g16, .ref g17, .ref g18, .ref g19, .int (u_33.2 2 0), .int (u_33.2 3 0), .ref g22, .int (u_33.2 4 0), .ref g24, .int (u_33.2 5 0), .int (u_33.2 6 0), .int (u_33.2 7 0), .ref g28, .ref g29, .int (u_33.2 8 0), .int (u_33.2 9 0)]))]) hP hD [1] [0] rfl rfl (by decide) (by decide) hk1 hFc hP1 hD1
      generalize H1 = H at hP hS ⊢
      have hP : va_P D vwCl [(ou, .inl (C 2, 1, .inr (.inl (u_22)))), (mo, .inr (9, [.int (u_33.2 0 0), .int (u_33.2 1 0), .ref g2, .ref g3, .ref g4, .ref g5, .ref g6, .ref g7, .ref g8, .ref g9, .ref g10, .ref g11, .ref g12, .ref g13, .ref g14, .ref g15, .ref g16, .ref g17, .ref g18, .ref g19, .int (u_33.2 2 0), .int (u_33.2 3 0), .ref g22, .int (u_33.2 4 0), .ref g24, .int (u_33.2 5 0), .int (u_33.2 6 0), .int (u_33.2 7 0), .ref g28, .ref g29, .int (u_33.2 8 0), .int (u_33.2 9 0)]))] H := hP
      have hD : va_D A [(ou, .inl (C 2, 1, .inr (.inl (u_22)))), (mo, .inr (9, [.int (u_33.2 0 0), .int (u_33.2 1 0), .ref g2, .ref g3, .ref g4, .ref g5, .ref g6, .ref g7, .ref g8, .ref g9, .ref g10, .ref g11, .ref g12, .ref g13, .ref g14, .ref g15, .ref g16, .ref g17, .ref g18, .ref g19, .int (u_33.2 2 0), .int (u_33.2 3 0), .ref g22, .int (u_33.2 4 0), .ref g24, .int (u_33.2 5 0), .int (u_33.2 6 0), .int (u_33.2 7 0), .ref g28, .ref g29, .int (u_33.2 8 0), .int (u_33.2 9 0)]))] := hD
      have hq_661 := hw
      obtain rfl : r_34 = (1 : Int32) := hw.trans hq_655
      refine lv_iload hx hb dL_law_664 (lv_at hl 1 rfl) ?_
      refine lv_icmp_eq (tgt := 671) hx hb dL_law_666 (by decide) (fun c_666 => ?_) (fun c_666 => ?_)
      rotate_left
      · exact absurd c_666 (by decide)
      refine lv_iload hx hb dL_law_671 (lv_at hl 1 rfl) ?_
      refine lv_if_ne (tgt := 695) hx hb dL_law_673 (by decide) (fun c_673 => ?_) (fun c_673 => ?_)
      rotate_left
      · exact absurd c_673 (by decide)
      refine lv_goto (tgt := 1732) hx hb dL_law_695 (by decide) ?_
      exact lc_end ⟨hl0, hx, hb, hr, hml, hown, ht, hX, hbl, hlocks, hK, hE, hA, hAs, hbA⟩ (by decide) (by decide) hS (lv_sub hl [2, 6] rfl)
set_option maxHeartbeats 4000000 in
set_option maxRecDepth 100000 in
theorem lc_has {p : Program} {l : Launch} {e : Env} {s : State} {m : MethodId} {below : List Frame} {meth : Method} {c : Code} {b : Nat} {xs : Nat → Int32} {D : va_G} {C : Nat → ClassId} {A : Nat → Prop} {h0 s0 de kl tl cu hk ca kx ky tx ty a0 a1 a2 a3 a4 a5 a6 a7 a8 a9 a10 a11 ou mo g2 g3 g4 g5 g6 g7 g8 g9 g10 g11 g12 g13 g14 g15 g16 g17 g18 g19 g22 g24 g28 g29 : Nat} {fo : Nat → Int64} (h : lAt p l s m meth c b 6 xs D C A) {H : Heap} {locs : List Loc} {ls : Array Slot} (hP : va_P D vwCl [(h0, .inr (5, [.ref s0, .ref de, .ref kl, .ref tl, .ref cu, .ref hk, .ref ca, .int 0, .int 0, .int (-1), .int 0, .int 0])), (kl, .inr (2, [.ref kx, .ref ky, .int 0])), (tl, .inr (4, [.ref tx, .ref ty, .int 1])), (s0, .inr (3, [.ref a0, .ref a1, .ref a2, .ref a3, .ref a4, .ref a5, .ref a6, .int 0, .ref a7, .ref a8, .ref a9, .ref a10, .ref a11, .int 0])), (ou, .inl (C 2, 1, .inr (.inl fo))), (mo, .inr (9, [.int 0, .int 0, .ref g2, .ref g3, .ref g4, .ref g5, .ref g6, .ref g7, .ref g8, .ref g9, .ref g10, .ref g11, .ref g12, .ref g13, .ref g14, .ref g15, .ref g16, .ref g17, .ref g18, .ref g19, .int 0, .int 0, .ref g22, .int 0, .ref g24, .int 0, .int 0, .int (-1), .ref g28, .ref g29, .int 0, .int 0]))] H) (hD : va_D A [(h0, .inr (5, [.ref s0, .ref de, .ref kl, .ref tl, .ref cu, .ref hk, .ref ca, .int 0, .int 0, .int (-1), .int 0, .int 0])), (kl, .inr (2, [.ref kx, .ref ky, .int 0])), (tl, .inr (4, [.ref tx, .ref ty, .int 1])), (s0, .inr (3, [.ref a0, .ref a1, .ref a2, .ref a3, .ref a4, .ref a5, .ref a6, .int 0, .ref a7, .ref a8, .ref a9, .ref a10, .ref a11, .int 0])), (ou, .inl (C 2, 1, .inr (.inl fo))), (mo, .inr (9, [.int 0, .int 0, .ref g2, .ref g3, .ref g4, .ref g5, .ref g6, .ref g7, .ref g8, .ref g9, .ref g10, .ref g11, .ref g12, .ref g13, .ref g14, .ref g15, .ref g16, .ref g17, .ref g18, .ref g19, .int 0, .int 0, .ref g22, .int 0, .ref g24, .int 0, .int 0, .int (-1), .ref g28, .ref g29, .int 0, .int 0]))]) (hS : va_S A s.heap H locs) (hl : lv_has ls 7 [(4, .int 0), (3, .ref ou), (2, .ref mo), (1, .ref h0), (0, .ref b)]) : W p l e room_1 s m #[Value.ref b] below meth c H locs 254 111937 (lw_Z below #[Value.ref b] s) (F0 m 698 ls []) := by
  obtain ⟨hl0, hx, hb, hr, hml, hown, ht, hX, hbl, hlocks, hK, hE, hA, hAs, hbA⟩ := h
  have hAb := hAs
  refine lv_aload_n hx hb dL_law_698 rfl (lv_at hl 3 rfl) ?_
  refine lv_aload_n hx hb dL_law_699 rfl (lv_at hl 4 rfl) ?_
  refine lv_iload hx hb dL_law_700 (lv_at hl 0 rfl) ?_
  refine lv_iconst (v := 1) hx hb dL_law_702 (by decide) ?_
  refine lv_iadd hx hb dL_law_703 ?_
  refine lv_topi (fun x_1 ex_1 => ?_)
  obtain rfl : x_1 = (1 : Int32) := ex_1.trans (by decide)
  refine va_sld hx hb hX hbl hbA hS (by unfold vp_in; decide) dL_law_704 ?_
  refine lv_aload_n hx hb dL_law_705 rfl (lv_at hl 4 rfl) ?_
  refine lv_iload hx hb dL_law_706 (lv_at hl 0 rfl) ?_
  refine lv_iconst (v := 2) hx hb dL_law_708 (by decide) ?_
  refine lv_iadd hx hb dL_law_709 ?_
  refine lv_topi (fun x_2 ex_2 => ?_)
  obtain rfl : x_2 = (2 : Int32) := ex_2.trans (by decide)
  refine va_sld hx hb hX hbl hbA hS (by unfold vp_in; decide) dL_law_710 ?_
  refine lv_aload_n hx hb dL_law_711 rfl (lv_at hl 4 rfl) ?_
  refine lv_iload hx hb dL_law_712 (lv_at hl 0 rfl) ?_
  refine lv_iconst (v := 3) hx hb dL_law_714 (by decide) ?_
  refine lv_iadd hx hb dL_law_715 ?_
  refine lv_topi (fun x_3 ex_3 => ?_)
  obtain rfl : x_3 = (3 : Int32) := ex_3.trans (by decide)
  refine va_sld hx hb hX hbl hbA hS (by unfold vp_in; decide) dL_law_716 ?_
  refine lv_if_eq (tgt := 724) hx hb dL_law_717 (by decide) (fun c_717 => ?_) (fun c_717 => ?_)
  · skip
    refine lv_iconst (v := 0) hx hb dL_law_724 (by decide) ?_
    refine lv_aload_n hx hb dL_law_725 rfl (lv_at hl 1 rfl) ?_
    have hPc := hP.sub (ws' := [(h0, .inr (5, [.ref s0, .ref de, .ref kl, .ref tl, .ref cu, .ref hk, .ref ca, .int 0, .int 0, .int (-1), .int 0, .int 0])), (kl, .inr (2, [.ref kx, .ref ky, .int 0])), (tl, .inr (4, [.ref tx, .ref ty, .int 1])), (s0, .inr (3, [.ref a0, .ref a1, .ref a2, .ref a3, .ref a4, .ref a5, .ref a6, .int 0, .ref a7, .ref a8, .ref a9, .ref a10, .ref a11, .int 0])), (ou, .inl (C 2, 1, .inr (.inl fo)))]) [0, 1, 2, 3, 4] rfl
    have hDc := hD.sub (ws' := [(h0, .inr (5, [.ref s0, .ref de, .ref kl, .ref tl, .ref cu, .ref hk, .ref ca, .int 0, .int 0, .int (-1), .int 0, .int 0])), (kl, .inr (2, [.ref kx, .ref ky, .int 0])), (tl, .inr (4, [.ref tx, .ref ty, .int 1])), (s0, .inr (3, [.ref a0, .ref a1, .ref a2, .ref a3, .ref a4, .ref a5, .ref a6, .int 0, .ref a7, .ref a8, .ref a9, .ref a10, .ref a11, .int 0])), (ou, .inl (C 2, 1, .inr (.inl fo)))]) [0, 1, 2, 3, 4] (by decide) rfl
    have hFc := va_free (wc := [(h0, .inr (5, [.ref s0, .ref de, .ref kl, .ref tl, .ref cu, .ref hk, .ref ca, .int 0, .int 0, .int (-1), .int 0, .int 0])), (kl, .inr (2, [.ref kx, .ref ky, .int 0])), (tl, .inr (4, [.ref tx, .ref ty, .int 1])), (s0, .inr (3, [.ref a0, .ref a1, .ref a2, .ref a3, .ref a4, .ref a5, .ref a6, .int 0, .ref a7, .ref a8, .ref a9, .ref a10, .ref a11, .int 0])), (ou, .inl (C 2, 1, .inr (.inl fo)))]) hD hS hA [0, 1, 2, 3, 4] rfl
    refine va_calli (vx_runSW (As := [.ref h0, .int (xs (Int32.toNatClampNeg 1)), .int (xs (Int32.toNatClampNeg 2)), .int 0, .ref ou]) (rest := []) ⟨hx, hb, hml, hown, ht⟩ (kL_has l hl0 D C s.heap.size H.size h0 s0 de kl tl cu hk ca kx ky tx ty a0 a1 a2 a3 a4 a5 a6 a7 a8 a9 a10 a11 ((xs (Int32.toNatClampNeg 1))) ((xs (Int32.toNatClampNeg 2))) 0 ou fo) (vx_cwSW 5 ht (xg_T m_595 m_596 m_558 m_476) rfl rfl rfl (by decide +kernel) ⟨Nat.le_of_ble_eq_true rfl, Nat.le_of_ble_eq_true rfl⟩) ⟨xPc_bl, xPc_at hPc hK hDc hE hS hAb⟩ rfl rfl hl.1 rfl (lv_room (Nat.le_of_ble_eq_true rfl)) dL_law_726 ⟨(by decide), (by decide)⟩) hS (fun q _ h => hFc q h) hFc (fun r_4 u_5 t H1 locs ht1 hvm hw hB hz1 hk1 hS => ?_)
    obtain ⟨hP1, hD1⟩ := hB
    rw [ht1] at hP1
    try dsimp only at hw
    obtain ⟨hP, hD⟩ := va_join (wr := [(mo, .inr (9, [.int 0, .int 0, .ref g2, .ref g3, .ref g4, .ref g5, .ref g6, .ref g7, .ref g8, .ref g9, .ref g10, .ref g11, .ref g12, .ref g13, .ref g14, .ref g15, .ref g16, .ref g17, .ref g18, .ref g19, .int 0, .int 0, .ref g22, .int 0, .ref g24, .int 0, .int 0, .int (-1), .ref g28, .ref g29, .int 0, .int 0]))]) (w1 := [(ou, .inl (C 2, 1, .inr (.inl (u_5))))]) hP hD [0, 1, 2, 3, 4] [5] rfl rfl (by decide) (by decide) hk1 hFc hP1 hD1
    generalize H1 = H at hP hS ⊢
    have hP : va_P D vwCl [(mo, .inr (9, [.int 0, .int 0, .ref g2, .ref g3, .ref g4, .ref g5, .ref g6, .ref g7, .ref g8, .ref g9, .ref g10, .ref g11, .ref g12, .ref g13, .ref g14, .ref g15, .ref g16, .ref g17, .ref g18, .ref g19, .int 0, .int 0, .ref g22, .int 0, .ref g24, .int 0, .int 0, .int (-1), .ref g28, .ref g29, .int 0, .int 0])), (ou, .inl (C 2, 1, .inr (.inl (u_5))))] H := hP
    have hD : va_D A [(mo, .inr (9, [.int 0, .int 0, .ref g2, .ref g3, .ref g4, .ref g5, .ref g6, .ref g7, .ref g8, .ref g9, .ref g10, .ref g11, .ref g12, .ref g13, .ref g14, .ref g15, .ref g16, .ref g17, .ref g18, .ref g19, .int 0, .int 0, .ref g22, .int 0, .ref g24, .int 0, .int 0, .int (-1), .ref g28, .ref g29, .int 0, .int 0])), (ou, .inl (C 2, 1, .inr (.inl (u_5))))] := hD
    have hq_726 := hw
    obtain rfl : r_4 = (1 : Int32) := hw
    refine W.widen (k := 257) (n := 111955) (by decide) (by decide) ?_
    refine lv_istore (lv' := [(5, .int 1), (4, .int 0), (3, .ref ou), (2, .ref mo), (1, .ref h0), (0, .ref b)]) hx hb dL_law_729 hl (by decide) rfl (fun ls hl => ?_)
    refine lv_aload_n hx hb dL_law_731 rfl (lv_at hl 3 rfl) ?_
    refine lv_aload_n hx hb dL_law_732 rfl (lv_at hl 5 rfl) ?_
    refine lv_iload hx hb dL_law_733 (lv_at hl 1 rfl) ?_
    refine lv_iconst (v := 1) hx hb dL_law_735 (by decide) ?_
    refine lv_iadd hx hb dL_law_736 ?_
    refine lv_topi (fun x_6 ex_6 => ?_)
    obtain rfl : x_6 = (1 : Int32) := ex_6.trans (by decide)
    refine va_sld hx hb hX hbl hbA hS (by unfold vp_in; decide) dL_law_737 ?_
    refine lv_aload_n hx hb dL_law_738 rfl (lv_at hl 5 rfl) ?_
    refine lv_iload hx hb dL_law_739 (lv_at hl 1 rfl) ?_
    refine lv_iconst (v := 2) hx hb dL_law_741 (by decide) ?_
    refine lv_iadd hx hb dL_law_742 ?_
    refine lv_topi (fun x_7 ex_7 => ?_)
    obtain rfl : x_7 = (2 : Int32) := ex_7.trans (by decide)
    refine va_sld hx hb hX hbl hbA hS (by unfold vp_in; decide) dL_law_743 ?_
    refine lv_aload_n hx hb dL_law_744 rfl (lv_at hl 5 rfl) ?_
    refine lv_iload hx hb dL_law_745 (lv_at hl 1 rfl) ?_
    refine lv_iconst (v := 3) hx hb dL_law_747 (by decide) ?_
    refine lv_iadd hx hb dL_law_748 ?_
    refine lv_topi (fun x_8 ex_8 => ?_)
    obtain rfl : x_8 = (3 : Int32) := ex_8.trans (by decide)
    refine va_sld hx hb hX hbl hbA hS (by unfold vp_in; decide) dL_law_749 ?_
    refine lv_if_eq (tgt := 757) hx hb dL_law_750 (by decide) (fun c_750 => ?_) (fun c_750 => ?_)
    · skip
      refine lv_iconst (v := 0) hx hb dL_law_757 (by decide) ?_
      have hPc := hP.sub (ws' := [(mo, .inr (9, [.int 0, .int 0, .ref g2, .ref g3, .ref g4, .ref g5, .ref g6, .ref g7, .ref g8, .ref g9, .ref g10, .ref g11, .ref g12, .ref g13, .ref g14, .ref g15, .ref g16, .ref g17, .ref g18, .ref g19, .int 0, .int 0, .ref g22, .int 0, .ref g24, .int 0, .int 0, .int (-1), .ref g28, .ref g29, .int 0, .int 0]))]) [0] rfl
      have hDc := hD.sub (ws' := [(mo, .inr (9, [.int 0, .int 0, .ref g2, .ref g3, .ref g4, .ref g5, .ref g6, .ref g7, .ref g8, .ref g9, .ref g10, .ref g11, .ref g12, .ref g13, .ref g14, .ref g15, .ref g16, .ref g17, .ref g18, .ref g19, .int 0, .int 0, .ref g22, .int 0, .ref g24, .int 0, .int 0, .int (-1), .ref g28, .ref g29, .int 0, .int 0]))]) [0] (by decide) rfl
      have hFc := va_free (wc := [(mo, .inr (9, [.int 0, .int 0, .ref g2, .ref g3, .ref g4, .ref g5, .ref g6, .ref g7, .ref g8, .ref g9, .ref g10, .ref g11, .ref g12, .ref g13, .ref g14, .ref g15, .ref g16, .ref g17, .ref g18, .ref g19, .int 0, .int 0, .ref g22, .int 0, .ref g24, .int 0, .int 0, .int (-1), .ref g28, .ref g29, .int 0, .int 0]))]) hD hS hA [0] rfl
      refine va_calli (vx_runVW (As := [.int (xs (Int32.toNatClampNeg 1)), .int (xs (Int32.toNatClampNeg 2)), .int 0]) (rest := []) ⟨hx, hb, hml, hown, ht⟩ (k9p_has l D C s.heap.size H.size mo g2 g3 g4 g5 g6 g7 g8 g9 g10 g11 g12 g13 g14 g15 g16 g17 g18 g19 g22 g24 g28 g29 ((xs (Int32.toNatClampNeg 1))) ((xs (Int32.toNatClampNeg 2))) 0) (vx_cwVW 3 ht (xg_V m_597 m_598 m_599 m_391 m_232) rfl rfl rfl (by decide +kernel) ⟨Nat.le_of_ble_eq_true rfl, Nat.le_of_ble_eq_true rfl⟩) ⟨xPc_bl, va_recv hK hPc (ci := 9) (q0 := 0) rfl rfl, xPc_at hPc hK hDc hE hS hAb⟩ rfl rfl hl.1 rfl (lv_room (Nat.le_of_ble_eq_true rfl)) dL_law_758 ⟨(by decide), (by decide)⟩) hS (fun q _ h => hFc q h) hFc (fun r_9 u_10 t H1 locs ht1 hvm hw hB hz1 hk1 hS => ?_)
      obtain ⟨hP1, hD1⟩ := hB
      rw [ht1] at hP1
      try dsimp only at hw
      obtain ⟨hP, hD⟩ := va_join (wr := [(ou, .inl (C 2, 1, .inr (.inl (u_5))))]) (w1 := [(mo, .inr (9, [.int (u_10.2 0 0), .int (u_10.2 1 0), .ref g2, .ref g3, .ref g4, .ref g5, .ref g6, .ref g7, .ref g8, .ref g9, .ref g10, .ref g11, .ref g12, .ref g13, .ref g14, .ref g15, .ref g16, .ref g17, .ref g18, .ref g19, .int (u_10.2 2 0), .int (u_10.2 3 0), .ref g22, .int (u_10.2 4 0), .ref g24, .int (u_10.2 5 0), .int (u_10.2 6 0), .int (u_10.2 7 0), .ref g28, .ref g29, .int (u_10.2 8 0), .int (u_10.2 9 0)]))]) hP hD [0] [1] rfl rfl (by decide) (by decide) hk1 hFc hP1 hD1
      generalize H1 = H at hP hS ⊢
      have hP : va_P D vwCl [(ou, .inl (C 2, 1, .inr (.inl (u_5)))), (mo, .inr (9, [.int (u_10.2 0 0), .int (u_10.2 1 0), .ref g2, .ref g3, .ref g4, .ref g5, .ref g6, .ref g7, .ref g8, .ref g9, .ref g10, .ref g11, .ref g12, .ref g13, .ref g14, .ref g15, .ref g16, .ref g17, .ref g18, .ref g19, .int (u_10.2 2 0), .int (u_10.2 3 0), .ref g22, .int (u_10.2 4 0), .ref g24, .int (u_10.2 5 0), .int (u_10.2 6 0), .int (u_10.2 7 0), .ref g28, .ref g29, .int (u_10.2 8 0), .int (u_10.2 9 0)]))] H := hP
      have hD : va_D A [(ou, .inl (C 2, 1, .inr (.inl (u_5)))), (mo, .inr (9, [.int (u_10.2 0 0), .int (u_10.2 1 0), .ref g2, .ref g3, .ref g4, .ref g5, .ref g6, .ref g7, .ref g8, .ref g9, .ref g10, .ref g11, .ref g12, .ref g13, .ref g14, .ref g15, .ref g16, .ref g17, .ref g18, .ref g19, .int (u_10.2 2 0), .int (u_10.2 3 0), .ref g22, .int (u_10.2 4 0), .ref g24, .int (u_10.2 5 0), .int (u_10.2 6 0), .int (u_10.2 7 0), .ref g28, .ref g29, .int (u_10.2 8 0), .int (u_10.2 9 0)]))] := hD
      have hq_758 := hw
      refine W.widen (k := 258) (n := 111962) (by decide) (by decide) ?_
      refine lv_istore (lv' := [(6, .int r_9), (5, .int 1), (4, .int 0), (3, .ref ou), (2, .ref mo), (1, .ref h0), (0, .ref b)]) hx hb dL_law_761 hl (by decide) rfl (fun ls hl => ?_)
      refine lv_aload_n hx hb dL_law_763 rfl (lv_at hl 4 rfl) ?_
      have hPc := hP.sub (ws' := [(mo, .inr (9, [.int (u_10.2 0 0), .int (u_10.2 1 0), .ref g2, .ref g3, .ref g4, .ref g5, .ref g6, .ref g7, .ref g8, .ref g9, .ref g10, .ref g11, .ref g12, .ref g13, .ref g14, .ref g15, .ref g16, .ref g17, .ref g18, .ref g19, .int (u_10.2 2 0), .int (u_10.2 3 0), .ref g22, .int (u_10.2 4 0), .ref g24, .int (u_10.2 5 0), .int (u_10.2 6 0), .int (u_10.2 7 0), .ref g28, .ref g29, .int (u_10.2 8 0), .int (u_10.2 9 0)]))]) [1] rfl
      have hDc := hD.sub (ws' := [(mo, .inr (9, [.int (u_10.2 0 0), .int (u_10.2 1 0), .ref g2, .ref g3, .ref g4, .ref g5, .ref g6, .ref g7, .ref g8, .ref g9, .ref g10, .ref g11, .ref g12, .ref g13, .ref g14, .ref g15, .ref g16, .ref g17, .ref g18, .ref g19, .int (u_10.2 2 0), .int (u_10.2 3 0), .ref g22, .int (u_10.2 4 0), .ref g24, .int (u_10.2 5 0), .int (u_10.2 6 0), .int (u_10.2 7 0), .ref g28, .ref g29, .int (u_10.2 8 0), .int (u_10.2 9 0)]))]) [1] (by decide) rfl
      have hFc := va_free (wc := [(mo, .inr (9, [.int (u_10.2 0 0), .int (u_10.2 1 0), .ref g2, .ref g3, .ref g4, .ref g5, .ref g6, .ref g7, .ref g8, .ref g9, .ref g10, .ref g11, .ref g12, .ref g13, .ref g14, .ref g15, .ref g16, .ref g17, .ref g18, .ref g19, .int (u_10.2 2 0), .int (u_10.2 3 0), .ref g22, .int (u_10.2 4 0), .ref g24, .int (u_10.2 5 0), .int (u_10.2 6 0), .int (u_10.2 7 0), .ref g28, .ref g29, .int (u_10.2 8 0), .int (u_10.2 9 0)]))]) hD hS hA [1] rfl
      refine va_calli (va_runV (As := []) (rest := []) ⟨hx, hb, hml, hown, ht⟩ (k9_thrown l D C s.heap.size H.size mo g2 g3 g4 g5 g6 g7 g8 g9 g10 g11 g12 g13 g14 g15 g16 g17 g18 g19 g22 g24 g28 g29 (u_10.2 0 0) (u_10.2 1 0) (u_10.2 2 0) (u_10.2 3 0) (u_10.2 4 0) (u_10.2 5 0) (u_10.2 6 0) (u_10.2 7 0) (u_10.2 8 0) (u_10.2 9 0)) (cwV 0 ht (xg_V m_562 m_563 m_564 m_391 m_221) rfl rfl rfl (by decide +kernel) ⟨Nat.le_of_ble_eq_true rfl, Nat.le_of_ble_eq_true rfl⟩) ⟨xPc_bl, va_recv hK hPc (ci := 9) (q0 := 0) rfl rfl, xPc_at hPc hK hDc hE hS hAb⟩ rfl rfl hl.1 rfl (lv_room (Nat.le_of_ble_eq_true rfl)) dL_law_764 ⟨(by decide), (by decide)⟩) hS (fun q _ h => hFc q h) hFc (fun r_11 u_12 t H1 locs ht1 hvm hw hB hz1 hk1 hS => ?_)
      obtain ⟨hP1, hD1⟩ := hB
      rw [ht1] at hP1
      try dsimp only at hw
      obtain ⟨hP, hD⟩ := va_join (wr := [(ou, .inl (C 2, 1, .inr (.inl (u_5))))]) (w1 := [(mo, .inr (9, [.int (u_10.2 0 0), .int (u_10.2 1 0), .ref g2, .ref g3, .ref g4, .ref g5, .ref g6, .ref g7, .ref g8, .ref g9, .ref g10, .ref g11, .ref g12, .ref g13, .ref g14, .ref g15, .ref g16, .ref g17, .ref g18, .ref g19, .int (u_10.2 2 0), .int (u_10.2 3 0), .ref g22, .int (u_10.2 4 0), .ref g24, .int (u_10.2 5 0), .int (u_10.2 6 0), .int (u_10.2 7 0), .ref g28, .ref g29, .int (u_10.2 8 0), .int (u_10.2 9 0)]))]) hP hD [1] [0] rfl rfl (by decide) (by decide) hk1 hFc hP1 hD1
      generalize H1 = H at hP hS ⊢
      have hP : va_P D vwCl [(ou, .inl (C 2, 1, .inr (.inl (u_5)))), (mo, .inr (9, [.int (u_10.2 0 0), .int (u_10.2 1 0), .ref g2, .ref g3, .ref g4, .ref g5, .ref g6, .ref g7, .ref g8, .ref g9, .ref g10, .ref g11, .ref g12, .ref g13, .ref g14, .ref g15, .ref g16, .ref g17, .ref g18, .ref g19, .int (u_10.2 2 0), .int (u_10.2 3 0), .ref g22, .int (u_10.2 4 0), .ref g24, .int (u_10.2 5 0), .int (u_10.2 6 0), .int (u_10.2 7 0), .ref g28, .ref g29, .int (u_10.2 8 0), .int (u_10.2 9 0)]))] H := hP
      have hD : va_D A [(ou, .inl (C 2, 1, .inr (.inl (u_5)))), (mo, .inr (9, [.int (u_10.2 0 0), .int (u_10.2 1 0), .ref g2, .ref g3, .ref g4, .ref g5, .ref g6, .ref g7, .ref g8, .ref g9, .ref g10, .ref g11, .ref g12, .ref g13, .ref g14, .ref g15, .ref g16, .ref g17, .ref g18, .ref g19, .int (u_10.2 2 0), .int (u_10.2 3 0), .ref g22, .int (u_10.2 4 0), .ref g24, .int (u_10.2 5 0), .int (u_10.2 6 0), .int (u_10.2 7 0), .ref g28, .ref g29, .int (u_10.2 8 0), .int (u_10.2 9 0)]))] := hD
      have hq_764 := hw
      obtain rfl : r_11 = (1 : Int32) := hw.trans hq_758
      refine lv_iload hx hb dL_law_767 (lv_at hl 1 rfl) ?_
      refine lv_icmp_eq (tgt := 774) hx hb dL_law_769 (by decide) (fun c_769 => ?_) (fun c_769 => ?_)
      rotate_left
      · exact absurd c_769 (by decide)
      refine lv_iload hx hb dL_law_774 (lv_at hl 1 rfl) ?_
      refine lv_if_ne (tgt := 798) hx hb dL_law_776 (by decide) (fun c_776 => ?_) (fun c_776 => ?_)
      rotate_left
      · exact absurd c_776 (by decide)
      refine lv_goto (tgt := 1732) hx hb dL_law_798 (by decide) ?_
      exact lc_end ⟨hl0, hx, hb, hr, hml, hown, ht, hX, hbl, hlocks, hK, hE, hA, hAs, hbA⟩ (by decide) (by decide) hS (lv_sub hl [2, 6] rfl)
    · skip
      refine lv_iconst (v := 1) hx hb dL_law_753 (by decide) ?_
      refine lv_goto (tgt := 758) hx hb dL_law_754 (by decide) ?_
      have hPc := hP.sub (ws' := [(mo, .inr (9, [.int 0, .int 0, .ref g2, .ref g3, .ref g4, .ref g5, .ref g6, .ref g7, .ref g8, .ref g9, .ref g10, .ref g11, .ref g12, .ref g13, .ref g14, .ref g15, .ref g16, .ref g17, .ref g18, .ref g19, .int 0, .int 0, .ref g22, .int 0, .ref g24, .int 0, .int 0, .int (-1), .ref g28, .ref g29, .int 0, .int 0]))]) [0] rfl
      have hDc := hD.sub (ws' := [(mo, .inr (9, [.int 0, .int 0, .ref g2, .ref g3, .ref g4, .ref g5, .ref g6, .ref g7, .ref g8, .ref g9, .ref g10, .ref g11, .ref g12, .ref g13, .ref g14, .ref g15, .ref g16, .ref g17, .ref g18, .ref g19, .int 0, .int 0, .ref g22, .int 0, .ref g24, .int 0, .int 0, .int (-1), .ref g28, .ref g29, .int 0, .int 0]))]) [0] (by decide) rfl
      have hFc := va_free (wc := [(mo, .inr (9, [.int 0, .int 0, .ref g2, .ref g3, .ref g4, .ref g5, .ref g6, .ref g7, .ref g8, .ref g9, .ref g10, .ref g11, .ref g12, .ref g13, .ref g14, .ref g15, .ref g16, .ref g17, .ref g18, .ref g19, .int 0, .int 0, .ref g22, .int 0, .ref g24, .int 0, .int 0, .int (-1), .ref g28, .ref g29, .int 0, .int 0]))]) hD hS hA [0] rfl
      refine va_calli (vx_runVW (As := [.int (xs (Int32.toNatClampNeg 1)), .int (xs (Int32.toNatClampNeg 2)), .int 1]) (rest := []) ⟨hx, hb, hml, hown, ht⟩ (k9p_has l D C s.heap.size H.size mo g2 g3 g4 g5 g6 g7 g8 g9 g10 g11 g12 g13 g14 g15 g16 g17 g18 g19 g22 g24 g28 g29 ((xs (Int32.toNatClampNeg 1))) ((xs (Int32.toNatClampNeg 2))) 1) (vx_cwVW 3 ht (xg_V m_597 m_598 m_599 m_391 m_232) rfl rfl rfl (by decide +kernel) ⟨Nat.le_of_ble_eq_true rfl, Nat.le_of_ble_eq_true rfl⟩) ⟨xPc_bl, va_recv hK hPc (ci := 9) (q0 := 0) rfl rfl, xPc_at hPc hK hDc hE hS hAb⟩ rfl rfl hl.1 rfl (lv_room (Nat.le_of_ble_eq_true rfl)) dL_law_758 ⟨(by decide), (by decide)⟩) hS (fun q _ h => hFc q h) hFc (fun r_13 u_14 t H1 locs ht1 hvm hw hB hz1 hk1 hS => ?_)
      obtain ⟨hP1, hD1⟩ := hB
      rw [ht1] at hP1
      try dsimp only at hw
      obtain ⟨hP, hD⟩ := va_join (wr := [(ou, .inl (C 2, 1, .inr (.inl (u_5))))]) (w1 := [(mo, .inr (9, [.int (u_14.2 0 0), .int (u_14.2 1 0), .ref g2, .ref g3, .ref g4, .ref g5, .ref g6, .ref g7, .ref g8, .ref g9, .ref g10, .ref g11, .ref g12, .ref g13, .ref g14, .ref g15, .ref g16, .ref g17, .ref g18, .ref g19, .int (u_14.2 2 0), .int (u_14.2 3 0), .ref g22, .int (u_14.2 4 0), .ref g24, .int (u_14.2 5 0), .int (u_14.2 6 0), .int (u_14.2 7 0), .ref g28, .ref g29, .int (u_14.2 8 0), .int (u_14.2 9 0)]))]) hP hD [0] [1] rfl rfl (by decide) (by decide) hk1 hFc hP1 hD1
      generalize H1 = H at hP hS ⊢
      have hP : va_P D vwCl [(ou, .inl (C 2, 1, .inr (.inl (u_5)))), (mo, .inr (9, [.int (u_14.2 0 0), .int (u_14.2 1 0), .ref g2, .ref g3, .ref g4, .ref g5, .ref g6, .ref g7, .ref g8, .ref g9, .ref g10, .ref g11, .ref g12, .ref g13, .ref g14, .ref g15, .ref g16, .ref g17, .ref g18, .ref g19, .int (u_14.2 2 0), .int (u_14.2 3 0), .ref g22, .int (u_14.2 4 0), .ref g24, .int (u_14.2 5 0), .int (u_14.2 6 0), .int (u_14.2 7 0), .ref g28, .ref g29, .int (u_14.2 8 0), .int (u_14.2 9 0)]))] H := hP
      have hD : va_D A [(ou, .inl (C 2, 1, .inr (.inl (u_5)))), (mo, .inr (9, [.int (u_14.2 0 0), .int (u_14.2 1 0), .ref g2, .ref g3, .ref g4, .ref g5, .ref g6, .ref g7, .ref g8, .ref g9, .ref g10, .ref g11, .ref g12, .ref g13, .ref g14, .ref g15, .ref g16, .ref g17, .ref g18, .ref g19, .int (u_14.2 2 0), .int (u_14.2 3 0), .ref g22, .int (u_14.2 4 0), .ref g24, .int (u_14.2 5 0), .int (u_14.2 6 0), .int (u_14.2 7 0), .ref g28, .ref g29, .int (u_14.2 8 0), .int (u_14.2 9 0)]))] := hD
      have hq_758 := hw
      refine W.widen (k := 258) (n := 111962) (by decide) (by decide) ?_
      refine lv_istore (lv' := [(6, .int r_13), (5, .int 1), (4, .int 0), (3, .ref ou), (2, .ref mo), (1, .ref h0), (0, .ref b)]) hx hb dL_law_761 hl (by decide) rfl (fun ls hl => ?_)
      refine lv_aload_n hx hb dL_law_763 rfl (lv_at hl 4 rfl) ?_
      have hPc := hP.sub (ws' := [(mo, .inr (9, [.int (u_14.2 0 0), .int (u_14.2 1 0), .ref g2, .ref g3, .ref g4, .ref g5, .ref g6, .ref g7, .ref g8, .ref g9, .ref g10, .ref g11, .ref g12, .ref g13, .ref g14, .ref g15, .ref g16, .ref g17, .ref g18, .ref g19, .int (u_14.2 2 0), .int (u_14.2 3 0), .ref g22, .int (u_14.2 4 0), .ref g24, .int (u_14.2 5 0), .int (u_14.2 6 0), .int (u_14.2 7 0), .ref g28, .ref g29, .int (u_14.2 8 0), .int (u_14.2 9 0)]))]) [1] rfl
      have hDc := hD.sub (ws' := [(mo, .inr (9, [.int (u_14.2 0 0), .int (u_14.2 1 0), .ref g2, .ref g3, .ref g4, .ref g5, .ref g6, .ref g7, .ref g8, .ref g9, .ref g10, .ref g11, .ref g12, .ref g13, .ref g14, .ref g15, .ref g16, .ref g17, .ref g18, .ref g19, .int (u_14.2 2 0), .int (u_14.2 3 0), .ref g22, .int (u_14.2 4 0), .ref g24, .int (u_14.2 5 0), .int (u_14.2 6 0), .int (u_14.2 7 0), .ref g28, .ref g29, .int (u_14.2 8 0), .int (u_14.2 9 0)]))]) [1] (by decide) rfl
      have hFc := va_free (wc := [(mo, .inr (9, [.int (u_14.2 0 0), .int (u_14.2 1 0), .ref g2, .ref g3, .ref g4, .ref g5, .ref g6, .ref g7, .ref g8, .ref g9, .ref g10, .ref g11, .ref g12, .ref g13, .ref g14, .ref g15, .ref g16, .ref g17, .ref g18, .ref g19, .int (u_14.2 2 0), .int (u_14.2 3 0), .ref g22, .int (u_14.2 4 0), .ref g24, .int (u_14.2 5 0), .int (u_14.2 6 0), .int (u_14.2 7 0), .ref g28, .ref g29, .int (u_14.2 8 0), .int (u_14.2 9 0)]))]) hD hS hA [1] rfl
      refine va_calli (va_runV (As := []) (rest := []) ⟨hx, hb, hml, hown, ht⟩ (k9_thrown l D C s.heap.size H.size mo g2 g3 g4 g5 g6 g7 g8 g9 g10 g11 g12 g13 g14 g15 g16 g17 g18 g19 g22 g24 g28 g29 (u_14.2 0 0) (u_14.2 1 0) (u_14.2 2 0) (u_14.2 3 0) (u_14.2 4 0) (u_14.2 5 0) (u_14.2 6 0) (u_14.2 7 0) (u_14.2 8 0) (u_14.2 9 0)) (cwV 0 ht (xg_V m_562 m_563 m_564 m_391 m_221) rfl rfl rfl (by decide +kernel) ⟨Nat.le_of_ble_eq_true rfl, Nat.le_of_ble_eq_true rfl⟩) ⟨xPc_bl, va_recv hK hPc (ci := 9) (q0 := 0) rfl rfl, xPc_at hPc hK hDc hE hS hAb⟩ rfl rfl hl.1 rfl (lv_room (Nat.le_of_ble_eq_true rfl)) dL_law_764 ⟨(by decide), (by decide)⟩) hS (fun q _ h => hFc q h) hFc (fun r_15 u_16 t H1 locs ht1 hvm hw hB hz1 hk1 hS => ?_)
      obtain ⟨hP1, hD1⟩ := hB
      rw [ht1] at hP1
      try dsimp only at hw
      obtain ⟨hP, hD⟩ := va_join (wr := [(ou, .inl (C 2, 1, .inr (.inl (u_5))))]) (w1 := [(mo, .inr (9, [.int (u_14.2 0 0), .int (u_14.2 1 0), .ref g2, .ref g3, .ref g4, .ref g5, .ref g6, .ref g7, .ref g8, .ref g9, .ref g10, .ref g11, .ref g12, .ref g13, .ref g14, .ref g15, .ref g16, .ref g17, .ref g18, .ref g19, .int (u_14.2 2 0), .int (u_14.2 3 0), .ref g22, .int (u_14.2 4 0), .ref g24, .int (u_14.2 5 0), .int (u_14.2 6 0), .int (u_14.2 7 0), .ref g28, .ref g29, .int (u_14.2 8 0), .int (u_14.2 9 0)]))]) hP hD [1] [0] rfl rfl (by decide) (by decide) hk1 hFc hP1 hD1
      generalize H1 = H at hP hS ⊢
      have hP : va_P D vwCl [(ou, .inl (C 2, 1, .inr (.inl (u_5)))), (mo, .inr (9, [.int (u_14.2 0 0), .int (u_14.2 1 0), .ref g2, .ref g3, .ref g4, .ref g5, .ref g6, .ref g7, .ref g8, .ref g9, .ref g10, .ref g11, .ref g12, .ref g13, .ref g14, .ref g15, .ref g16, .ref g17, .ref g18, .ref g19, .int (u_14.2 2 0), .int (u_14.2 3 0), .ref g22, .int (u_14.2 4 0), .ref g24, .int (u_14.2 5 0), .int (u_14.2 6 0), .int (u_14.2 7 0), .ref g28, .ref g29, .int (u_14.2 8 0), .int (u_14.2 9 0)]))] H := hP
      have hD : va_D A [(ou, .inl (C 2, 1, .inr (.inl (u_5)))), (mo, .inr (9, [.int (u_14.2 0 0), .int (u_14.2 1 0), .ref g2, .ref g3, .ref g4, .ref g5, .ref g6, .ref g7, .ref g8, .ref g9, .ref g10, .ref g11, .ref g12, .ref g13, .ref g14, .ref g15, .ref g16, .ref g17, .ref g18, .ref g19, .int (u_14.2 2 0), .int (u_14.2 3 0), .ref g22, .int (u_14.2 4 0), .ref g24, .int (u_14.2 5 0), .int (u_14.2 6 0), .int (u_14.2 7 0), .ref g28, .ref g29, .int (u_14.2 8 0), .int (u_14.2 9 0)]))] := hD
      have hq_764 := hw
      obtain rfl : r_15 = (1 : Int32) := hw.trans hq_758
      refine lv_iload hx hb dL_law_767 (lv_at hl 1 rfl) ?_
      refine lv_icmp_eq (tgt := 774) hx hb dL_law_769 (by decide) (fun c_769 => ?_) (fun c_769 => ?_)
      rotate_left
      · exact absurd c_769 (by decide)
      refine lv_iload hx hb dL_law_774 (lv_at hl 1 rfl) ?_
      refine lv_if_ne (tgt := 798) hx hb dL_law_776 (by decide) (fun c_776 => ?_) (fun c_776 => ?_)
      rotate_left
      · exact absurd c_776 (by decide)
      refine lv_goto (tgt := 1732) hx hb dL_law_798 (by decide) ?_
      exact lc_end ⟨hl0, hx, hb, hr, hml, hown, ht, hX, hbl, hlocks, hK, hE, hA, hAs, hbA⟩ (by decide) (by decide) hS (lv_sub hl [2, 6] rfl)
  · skip
    refine lv_iconst (v := 1) hx hb dL_law_720 (by decide) ?_
    refine lv_goto (tgt := 725) hx hb dL_law_721 (by decide) ?_
    refine lv_aload_n hx hb dL_law_725 rfl (lv_at hl 1 rfl) ?_
    have hPc := hP.sub (ws' := [(h0, .inr (5, [.ref s0, .ref de, .ref kl, .ref tl, .ref cu, .ref hk, .ref ca, .int 0, .int 0, .int (-1), .int 0, .int 0])), (kl, .inr (2, [.ref kx, .ref ky, .int 0])), (tl, .inr (4, [.ref tx, .ref ty, .int 1])), (s0, .inr (3, [.ref a0, .ref a1, .ref a2, .ref a3, .ref a4, .ref a5, .ref a6, .int 0, .ref a7, .ref a8, .ref a9, .ref a10, .ref a11, .int 0])), (ou, .inl (C 2, 1, .inr (.inl fo)))]) [0, 1, 2, 3, 4] rfl
    have hDc := hD.sub (ws' := [(h0, .inr (5, [.ref s0, .ref de, .ref kl, .ref tl, .ref cu, .ref hk, .ref ca, .int 0, .int 0, .int (-1), .int 0, .int 0])), (kl, .inr (2, [.ref kx, .ref ky, .int 0])), (tl, .inr (4, [.ref tx, .ref ty, .int 1])), (s0, .inr (3, [.ref a0, .ref a1, .ref a2, .ref a3, .ref a4, .ref a5, .ref a6, .int 0, .ref a7, .ref a8, .ref a9, .ref a10, .ref a11, .int 0])), (ou, .inl (C 2, 1, .inr (.inl fo)))]) [0, 1, 2, 3, 4] (by decide) rfl
    have hFc := va_free (wc := [(h0, .inr (5, [.ref s0, .ref de, .ref kl, .ref tl, .ref cu, .ref hk, .ref ca, .int 0, .int 0, .int (-1), .int 0, .int 0])), (kl, .inr (2, [.ref kx, .ref ky, .int 0])), (tl, .inr (4, [.ref tx, .ref ty, .int 1])), (s0, .inr (3, [.ref a0, .ref a1, .ref a2, .ref a3, .ref a4, .ref a5, .ref a6, .int 0, .ref a7, .ref a8, .ref a9, .ref a10, .ref a11, .int 0])), (ou, .inl (C 2, 1, .inr (.inl fo)))]) hD hS hA [0, 1, 2, 3, 4] rfl
    refine va_calli (vx_runSW (As := [.ref h0, .int (xs (Int32.toNatClampNeg 1)), .int (xs (Int32.toNatClampNeg 2)), .int 1, .ref ou]) (rest := []) ⟨hx, hb, hml, hown, ht⟩ (kL_has l hl0 D C s.heap.size H.size h0 s0 de kl tl cu hk ca kx ky tx ty a0 a1 a2 a3 a4 a5 a6 a7 a8 a9 a10 a11 ((xs (Int32.toNatClampNeg 1))) ((xs (Int32.toNatClampNeg 2))) 1 ou fo) (vx_cwSW 5 ht (xg_T m_595 m_596 m_558 m_476) rfl rfl rfl (by decide +kernel) ⟨Nat.le_of_ble_eq_true rfl, Nat.le_of_ble_eq_true rfl⟩) ⟨xPc_bl, xPc_at hPc hK hDc hE hS hAb⟩ rfl rfl hl.1 rfl (lv_room (Nat.le_of_ble_eq_true rfl)) dL_law_726 ⟨(by decide), (by decide)⟩) hS (fun q _ h => hFc q h) hFc (fun r_17 u_18 t H1 locs ht1 hvm hw hB hz1 hk1 hS => ?_)
    obtain ⟨hP1, hD1⟩ := hB
    rw [ht1] at hP1
    try dsimp only at hw
    obtain ⟨hP, hD⟩ := va_join (wr := [(mo, .inr (9, [.int 0, .int 0, .ref g2, .ref g3, .ref g4, .ref g5, .ref g6, .ref g7, .ref g8, .ref g9, .ref g10, .ref g11, .ref g12, .ref g13, .ref g14, .ref g15, .ref g16, .ref g17, .ref g18, .ref g19, .int 0, .int 0, .ref g22, .int 0, .ref g24, .int 0, .int 0, .int (-1), .ref g28, .ref g29, .int 0, .int 0]))]) (w1 := [(ou, .inl (C 2, 1, .inr (.inl (u_18))))]) hP hD [0, 1, 2, 3, 4] [5] rfl rfl (by decide) (by decide) hk1 hFc hP1 hD1
    generalize H1 = H at hP hS ⊢
    have hP : va_P D vwCl [(mo, .inr (9, [.int 0, .int 0, .ref g2, .ref g3, .ref g4, .ref g5, .ref g6, .ref g7, .ref g8, .ref g9, .ref g10, .ref g11, .ref g12, .ref g13, .ref g14, .ref g15, .ref g16, .ref g17, .ref g18, .ref g19, .int 0, .int 0, .ref g22, .int 0, .ref g24, .int 0, .int 0, .int (-1), .ref g28, .ref g29, .int 0, .int 0])), (ou, .inl (C 2, 1, .inr (.inl (u_18))))] H := hP
    have hD : va_D A [(mo, .inr (9, [.int 0, .int 0, .ref g2, .ref g3, .ref g4, .ref g5, .ref g6, .ref g7, .ref g8, .ref g9, .ref g10, .ref g11, .ref g12, .ref g13, .ref g14, .ref g15, .ref g16, .ref g17, .ref g18, .ref g19, .int 0, .int 0, .ref g22, .int 0, .ref g24, .int 0, .int 0, .int (-1), .ref g28, .ref g29, .int 0, .int 0])), (ou, .inl (C 2, 1, .inr (.inl (u_18))))] := hD
    have hq_726 := hw
    obtain rfl : r_17 = (1 : Int32) := hw
    refine W.widen (k := 257) (n := 111955) (by decide) (by decide) ?_
    refine lv_istore (lv' := [(5, .int 1), (4, .int 0), (3, .ref ou), (2, .ref mo), (1, .ref h0), (0, .ref b)]) hx hb dL_law_729 hl (by decide) rfl (fun ls hl => ?_)
    refine lv_aload_n hx hb dL_law_731 rfl (lv_at hl 3 rfl) ?_
    refine lv_aload_n hx hb dL_law_732 rfl (lv_at hl 5 rfl) ?_
    refine lv_iload hx hb dL_law_733 (lv_at hl 1 rfl) ?_
    refine lv_iconst (v := 1) hx hb dL_law_735 (by decide) ?_
    refine lv_iadd hx hb dL_law_736 ?_
    refine lv_topi (fun x_19 ex_19 => ?_)
    obtain rfl : x_19 = (1 : Int32) := ex_19.trans (by decide)
    refine va_sld hx hb hX hbl hbA hS (by unfold vp_in; decide) dL_law_737 ?_
    refine lv_aload_n hx hb dL_law_738 rfl (lv_at hl 5 rfl) ?_
    refine lv_iload hx hb dL_law_739 (lv_at hl 1 rfl) ?_
    refine lv_iconst (v := 2) hx hb dL_law_741 (by decide) ?_
    refine lv_iadd hx hb dL_law_742 ?_
    refine lv_topi (fun x_20 ex_20 => ?_)
    obtain rfl : x_20 = (2 : Int32) := ex_20.trans (by decide)
    refine va_sld hx hb hX hbl hbA hS (by unfold vp_in; decide) dL_law_743 ?_
    refine lv_aload_n hx hb dL_law_744 rfl (lv_at hl 5 rfl) ?_
    refine lv_iload hx hb dL_law_745 (lv_at hl 1 rfl) ?_
    refine lv_iconst (v := 3) hx hb dL_law_747 (by decide) ?_
    refine lv_iadd hx hb dL_law_748 ?_
    refine lv_topi (fun x_21 ex_21 => ?_)
    obtain rfl : x_21 = (3 : Int32) := ex_21.trans (by decide)
    refine va_sld hx hb hX hbl hbA hS (by unfold vp_in; decide) dL_law_749 ?_
    refine lv_if_eq (tgt := 757) hx hb dL_law_750 (by decide) (fun c_750 => ?_) (fun c_750 => ?_)
    · skip
      refine lv_iconst (v := 0) hx hb dL_law_757 (by decide) ?_
      have hPc := hP.sub (ws' := [(mo, .inr (9, [.int 0, .int 0, .ref g2, .ref g3, .ref g4, .ref g5, .ref g6, .ref g7, .ref g8, .ref g9, .ref g10, .ref g11, .ref g12, .ref g13, .ref g14, .ref g15, .ref g16, .ref g17, .ref g18, .ref g19, .int 0, .int 0, .ref g22, .int 0, .ref g24, .int 0, .int 0, .int (-1), .ref g28, .ref g29, .int 0, .int 0]))]) [0] rfl
      have hDc := hD.sub (ws' := [(mo, .inr (9, [.int 0, .int 0, .ref g2, .ref g3, .ref g4, .ref g5, .ref g6, .ref g7, .ref g8, .ref g9, .ref g10, .ref g11, .ref g12, .ref g13, .ref g14, .ref g15, .ref g16, .ref g17, .ref g18, .ref g19, .int 0, .int 0, .ref g22, .int 0, .ref g24, .int 0, .int 0, .int (-1), .ref g28, .ref g29, .int 0, .int 0]))]) [0] (by decide) rfl
      have hFc := va_free (wc := [(mo, .inr (9, [.int 0, .int 0, .ref g2, .ref g3, .ref g4, .ref g5, .ref g6, .ref g7, .ref g8, .ref g9, .ref g10, .ref g11, .ref g12, .ref g13, .ref g14, .ref g15, .ref g16, .ref g17, .ref g18, .ref g19, .int 0, .int 0, .ref g22, .int 0, .ref g24, .int 0, .int 0, .int (-1), .ref g28, .ref g29, .int 0, .int 0]))]) hD hS hA [0] rfl
      refine va_calli (vx_runVW (As := [.int (xs (Int32.toNatClampNeg 1)), .int (xs (Int32.toNatClampNeg 2)), .int 0]) (rest := []) ⟨hx, hb, hml, hown, ht⟩ (k9p_has l D C s.heap.size H.size mo g2 g3 g4 g5 g6 g7 g8 g9 g10 g11 g12 g13 g14 g15 g16 g17 g18 g19 g22 g24 g28 g29 ((xs (Int32.toNatClampNeg 1))) ((xs (Int32.toNatClampNeg 2))) 0) (vx_cwVW 3 ht (xg_V m_597 m_598 m_599 m_391 m_232) rfl rfl rfl (by decide +kernel) ⟨Nat.le_of_ble_eq_true rfl, Nat.le_of_ble_eq_true rfl⟩) ⟨xPc_bl, va_recv hK hPc (ci := 9) (q0 := 0) rfl rfl, xPc_at hPc hK hDc hE hS hAb⟩ rfl rfl hl.1 rfl (lv_room (Nat.le_of_ble_eq_true rfl)) dL_law_758 ⟨(by decide), (by decide)⟩) hS (fun q _ h => hFc q h) hFc (fun r_22 u_23 t H1 locs ht1 hvm hw hB hz1 hk1 hS => ?_)
      obtain ⟨hP1, hD1⟩ := hB
      rw [ht1] at hP1
      try dsimp only at hw
      obtain ⟨hP, hD⟩ := va_join (wr := [(ou, .inl (C 2, 1, .inr (.inl (u_18))))]) (w1 := [(mo, .inr (9, [.int (u_23.2 0 0), .int (u_23.2 1 0), .ref g2, .ref g3, .ref g4, .ref g5, .ref g6, .ref g7, .ref g8, .ref g9, .ref g10, .ref g11, .ref g12, .ref g13, .ref g14, .ref g15, .ref g16, .ref g17, .ref g18, .ref g19, .int (u_23.2 2 0), .int (u_23.2 3 0), .ref g22, .int (u_23.2 4 0), .ref g24, .int (u_23.2 5 0), .int (u_23.2 6 0), .int (u_23.2 7 0), .ref g28, .ref g29, .int (u_23.2 8 0), .int (u_23.2 9 0)]))]) hP hD [0] [1] rfl rfl (by decide) (by decide) hk1 hFc hP1 hD1
      generalize H1 = H at hP hS ⊢
      have hP : va_P D vwCl [(ou, .inl (C 2, 1, .inr (.inl (u_18)))), (mo, .inr (9, [.int (u_23.2 0 0), .int (u_23.2 1 0), .ref g2, .ref g3, .ref g4, .ref g5, .ref g6, .ref g7, .ref g8, .ref g9, .ref g10, .ref g11, .ref g12, .ref g13, .ref g14, .ref g15, .ref g16, .ref g17, .ref g18, .ref g19, .int (u_23.2 2 0), .int (u_23.2 3 0), .ref g22, .int (u_23.2 4 0), .ref g24, .int (u_23.2 5 0), .int (u_23.2 6 0), .int (u_23.2 7 0), .ref g28, .ref g29, .int (u_23.2 8 0), .int (u_23.2 9 0)]))] H := hP
      have hD : va_D A [(ou, .inl (C 2, 1, .inr (.inl (u_18)))), (mo, .inr (9, [.int (u_23.2 0 0), .int (u_23.2 1 0), .ref g2, .ref g3, .ref g4, .ref g5, .ref g6, .ref g7, .ref g8, .ref g9, .ref g10, .ref g11, .ref g12, .ref g13, .ref g14, .ref g15, .ref g16, .ref g17, .ref g18, .ref g19, .int (u_23.2 2 0), .int (u_23.2 3 0), .ref g22, .int (u_23.2 4 0), .ref g24, .int (u_23.2 5 0), .int (u_23.2 6 0), .int (u_23.2 7 0), .ref g28, .ref g29, .int (u_23.2 8 0), .int (u_23.2 9 0)]))] := hD
      have hq_758 := hw
      refine W.widen (k := 258) (n := 111962) (by decide) (by decide) ?_
      refine lv_istore (lv' := [(6, .int r_22), (5, .int 1), (4, .int 0), (3, .ref ou), (2, .ref mo), (1, .ref h0), (0, .ref b)]) hx hb dL_law_761 hl (by decide) rfl (fun ls hl => ?_)
      refine lv_aload_n hx hb dL_law_763 rfl (lv_at hl 4 rfl) ?_
      have hPc := hP.sub (ws' := [(mo, .inr (9, [.int (u_23.2 0 0), .int (u_23.2 1 0), .ref g2, .ref g3, .ref g4, .ref g5, .ref g6, .ref g7, .ref g8, .ref g9, .ref g10, .ref g11, .ref g12, .ref g13, .ref g14, .ref g15, .ref g16, .ref g17, .ref g18, .ref g19, .int (u_23.2 2 0), .int (u_23.2 3 0), .ref g22, .int (u_23.2 4 0), .ref g24, .int (u_23.2 5 0), .int (u_23.2 6 0), .int (u_23.2 7 0), .ref g28, .ref g29, .int (u_23.2 8 0), .int (u_23.2 9 0)]))]) [1] rfl
      have hDc := hD.sub (ws' := [(mo, .inr (9, [.int (u_23.2 0 0), .int (u_23.2 1 0), .ref g2, .ref g3, .ref g4, .ref g5, .ref g6, .ref g7, .ref g8, .ref g9, .ref g10, .ref g11, .ref g12, .ref g13, .ref g14, .ref g15, .ref g16, .ref g17, .ref g18, .ref g19, .int (u_23.2 2 0), .int (u_23.2 3 0), .ref g22, .int (u_23.2 4 0), .ref g24, .int (u_23.2 5 0), .int (u_23.2 6 0), .int (u_23.2 7 0), .ref g28, .ref g29, .int (u_23.2 8 0), .int (u_23.2 9 0)]))]) [1] (by decide) rfl
      have hFc := va_free (wc := [(mo, .inr (9, [.int (u_23.2 0 0), .int (u_23.2 1 0), .ref g2, .ref g3, .ref g4, .ref g5, .ref g6, .ref g7, .ref g8, .ref g9, .ref g10, .ref g11, .ref g12, .ref g13, .ref g14, .ref g15, .ref g16, .ref g17, .ref g18, .ref g19, .int (u_23.2 2 0), .int (u_23.2 3 0), .ref g22, .int (u_23.2 4 0), .ref g24, .int (u_23.2 5 0), .int (u_23.2 6 0), .int (u_23.2 7 0), .ref g28, .ref g29, .int (u_23.2 8 0), .int (u_23.2 9 0)]))]) hD hS hA [1] rfl
      refine va_calli (va_runV (As := []) (rest := []) ⟨hx, hb, hml, hown, ht⟩ (k9_thrown l D C s.heap.size H.size mo g2 g3 g4 g5 g6 g7 g8 g9 g10 g11 g12 g13 g14 g15 g16 g17 g18 g19 g22 g24 g28 g29 (u_23.2 0 0) (u_23.2 1 0) (u_23.2 2 0) (u_23.2 3 0) (u_23.2 4 0) (u_23.2 5 0) (u_23.2 6 0) (u_23.2 7 0) (u_23.2 8 0) (u_23.2 9 0)) (cwV 0 ht (xg_V m_562 m_563 m_564 m_391 m_221) rfl rfl rfl (by decide +kernel) ⟨Nat.le_of_ble_eq_true rfl, Nat.le_of_ble_eq_true rfl⟩) ⟨xPc_bl, va_recv hK hPc (ci := 9) (q0 := 0) rfl rfl, xPc_at hPc hK hDc hE hS hAb⟩ rfl rfl hl.1 rfl (lv_room (Nat.le_of_ble_eq_true rfl)) dL_law_764 ⟨(by decide), (by decide)⟩) hS (fun q _ h => hFc q h) hFc (fun r_24 u_25 t H1 locs ht1 hvm hw hB hz1 hk1 hS => ?_)
      obtain ⟨hP1, hD1⟩ := hB
      rw [ht1] at hP1
      try dsimp only at hw
      obtain ⟨hP, hD⟩ := va_join (wr := [(ou, .inl (C 2, 1, .inr (.inl (u_18))))]) (w1 := [(mo, .inr (9, [.int (u_23.2 0 0), .int (u_23.2 1 0), .ref g2, .ref g3, .ref g4, .ref g5, .ref g6, .ref g7, .ref g8, .ref g9, .ref g10, .ref g11, .ref g12, .ref g13, .ref g14, .ref g15, .ref g16, .ref g17, .ref g18, .ref g19, .int (u_23.2 2 0), .int (u_23.2 3 0), .ref g22, .int (u_23.2 4 0), .ref g24, .int (u_23.2 5 0), .int (u_23.2 6 0), .int (u_23.2 7 0), .ref g28, .ref g29, .int (u_23.2 8 0), .int (u_23.2 9 0)]))]) hP hD [1] [0] rfl rfl (by decide) (by decide) hk1 hFc hP1 hD1
      generalize H1 = H at hP hS ⊢
      have hP : va_P D vwCl [(ou, .inl (C 2, 1, .inr (.inl (u_18)))), (mo, .inr (9, [.int (u_23.2 0 0), .int (u_23.2 1 0), .ref g2, .ref g3, .ref g4, .ref g5, .ref g6, .ref g7, .ref g8, .ref g9, .ref g10, .ref g11, .ref g12, .ref g13, .ref g14, .ref g15, .ref g16, .ref g17, .ref g18, .ref g19, .int (u_23.2 2 0), .int (u_23.2 3 0), .ref g22, .int (u_23.2 4 0), .ref g24, .int (u_23.2 5 0), .int (u_23.2 6 0), .int (u_23.2 7 0), .ref g28, .ref g29, .int (u_23.2 8 0), .int (u_23.2 9 0)]))] H := hP
      have hD : va_D A [(ou, .inl (C 2, 1, .inr (.inl (u_18)))), (mo, .inr (9, [.int (u_23.2 0 0), .int (u_23.2 1 0), .ref g2, .ref g3, .ref g4, .ref g5, .ref g6, .ref g7, .ref g8, .ref g9, .ref g10, .ref g11, .ref g12, .ref g13, .ref g14, .ref g15, .ref g16, .ref g17, .ref g18, .ref g19, .int (u_23.2 2 0), .int (u_23.2 3 0), .ref g22, .int (u_23.2 4 0), .ref g24, .int (u_23.2 5 0), .int (u_23.2 6 0), .int (u_23.2 7 0), .ref g28, .ref g29, .int (u_23.2 8 0), .int (u_23.2 9 0)]))] := hD
      have hq_764 := hw
      obtain rfl : r_24 = (1 : Int32) := hw.trans hq_758
      refine lv_iload hx hb dL_law_767 (lv_at hl 1 rfl) ?_
      refine lv_icmp_eq (tgt := 774) hx hb dL_law_769 (by decide) (fun c_769 => ?_) (fun c_769 => ?_)
      rotate_left
      · exact absurd c_769 (by decide)
      refine lv_iload hx hb dL_law_774 (lv_at hl 1 rfl) ?_
      refine lv_if_ne (tgt := 798) hx hb dL_law_776 (by decide) (fun c_776 => ?_) (fun c_776 => ?_)
      rotate_left
      · exact absurd c_776 (by decide)
      refine lv_goto (tgt := 1732) hx hb dL_law_798 (by decide) ?_
      exact lc_end ⟨hl0, hx, hb, hr, hml, hown, ht, hX, hbl, hlocks, hK, hE, hA, hAs, hbA⟩ (by decide) (by decide) hS (lv_sub hl [2, 6] rfl)
    · skip
      refine lv_iconst (v := 1) hx hb dL_law_753 (by decide) ?_
      refine lv_goto (tgt := 758) hx hb dL_law_754 (by decide) ?_
      have hPc := hP.sub (ws' := [(mo, .inr (9, [.int 0, .int 0, .ref g2, .ref g3, .ref g4, .ref g5, .ref g6, .ref g7, .ref g8, .ref g9, .ref g10, .ref g11, .ref g12, .ref g13, .ref g14, .ref g15, .ref g16, .ref g17, .ref g18, .ref g19, .int 0, .int 0, .ref g22, .int 0, .ref g24, .int 0, .int 0, .int (-1), .ref g28, .ref g29, .int 0, .int 0]))]) [0] rfl
      have hDc := hD.sub (ws' := [(mo, .inr (9, [.int 0, .int 0, .ref g2, .ref g3, .ref g4, .ref g5, .ref g6, .ref g7, .ref g8, .ref g9, .ref g10, .ref g11, .ref g12, .ref g13, .ref g14, .ref g15, .ref g16, .ref g17, .ref g18, .ref g19, .int 0, .int 0, .ref g22, .int 0, .ref g24, .int 0, .int 0, .int (-1), .ref g28, .ref g29, .int 0, .int 0]))]) [0] (by decide) rfl
      have hFc := va_free (wc := [(mo, .inr (9, [.int 0, .int 0, .ref g2, .ref g3, .ref g4, .ref g5, .ref g6, .ref g7, .ref g8, .ref g9, .ref g10, .ref g11, .ref g12, .ref g13, .ref g14, .ref g15, .ref g16, .ref g17, .ref g18, .ref g19, .int 0, .int 0, .ref g22, .int 0, .ref g24, .int 0, .int 0, .int (-1), .ref g28, .ref g29, .int 0, .int 0]))]) hD hS hA [0] rfl
      refine va_calli (vx_runVW (As := [.int (xs (Int32.toNatClampNeg 1)), .int (xs (Int32.toNatClampNeg 2)), .int 1]) (rest := []) ⟨hx, hb, hml, hown, ht⟩ (k9p_has l D C s.heap.size H.size mo g2 g3 g4 g5 g6 g7 g8 g9 g10 g11 g12 g13 g14 g15 g16 g17 g18 g19 g22 g24 g28 g29 ((xs (Int32.toNatClampNeg 1))) ((xs (Int32.toNatClampNeg 2))) 1) (vx_cwVW 3 ht (xg_V m_597 m_598 m_599 m_391 m_232) rfl rfl rfl (by decide +kernel) ⟨Nat.le_of_ble_eq_true rfl, Nat.le_of_ble_eq_true rfl⟩) ⟨xPc_bl, va_recv hK hPc (ci := 9) (q0 := 0) rfl rfl, xPc_at hPc hK hDc hE hS hAb⟩ rfl rfl hl.1 rfl (lv_room (Nat.le_of_ble_eq_true rfl)) dL_law_758 ⟨(by decide), (by decide)⟩) hS (fun q _ h => hFc q h) hFc (fun r_26 u_27 t H1 locs ht1 hvm hw hB hz1 hk1 hS => ?_)
      obtain ⟨hP1, hD1⟩ := hB
      rw [ht1] at hP1
      try dsimp only at hw
      obtain ⟨hP, hD⟩ := va_join (wr := [(ou, .inl (C 2, 1, .inr (.inl (u_18))))]) (w1 := [(mo, .inr (9, [.int (u_27.2 0 0), .int (u_27.2 1 0), .ref g2, .ref g3, .ref g4, .ref g5, .ref g6, .ref g7, .ref g8, .ref g9, .ref g10, .ref g11, .ref g12, .ref g13, .ref g14, .ref g15, .ref g16, .ref g17, .ref g18, .ref g19, .int (u_27.2 2 0), .int (u_27.2 3 0), .ref g22, .int (u_27.2 4 0), .ref g24, .int (u_27.2 5 0), .int (u_27.2 6 0), .int (u_27.2 7 0), .ref g28, .ref g29, .int (u_27.2 8 0), .int (u_27.2 9 0)]))]) hP hD [0] [1] rfl rfl (by decide) (by decide) hk1 hFc hP1 hD1
      generalize H1 = H at hP hS ⊢
      have hP : va_P D vwCl [(ou, .inl (C 2, 1, .inr (.inl (u_18)))), (mo, .inr (9, [.int (u_27.2 0 0), .int (u_27.2 1 0), .ref g2, .ref g3, .ref g4, .ref g5, .ref g6, .ref g7, .ref g8, .ref g9, .ref g10, .ref g11, .ref g12, .ref g13, .ref g14, .ref g15, .ref g16, .ref g17, .ref g18, .ref g19, .int (u_27.2 2 0), .int (u_27.2 3 0), .ref g22, .int (u_27.2 4 0), .ref g24, .int (u_27.2 5 0), .int (u_27.2 6 0), .int (u_27.2 7 0), .ref g28, .ref g29, .int (u_27.2 8 0), .int (u_27.2 9 0)]))] H := hP
      have hD : va_D A [(ou, .inl (C 2, 1, .inr (.inl (u_18)))), (mo, .inr (9, [.int (u_27.2 0 0), .int (u_27.2 1 0), .ref g2, .ref g3, .ref g4, .ref g5, .ref g6, .ref g7, .ref g8, .ref g9, .ref g10, .ref g11, .ref g12, .ref g13, .ref g14, .ref g15, .ref g16, .ref g17, .ref g18, .ref g19, .int (u_27.2 2 0), .int (u_27.2 3 0), .ref g22, .int (u_27.2 4 0), .ref g24, .int (u_27.2 5 0), .int (u_27.2 6 0), .int (u_27.2 7 0), .ref g28, .ref g29, .int (u_27.2 8 0), .int (u_27.2 9 0)]))] := hD
      have hq_758 := hw
      refine W.widen (k := 258) (n := 111962) (by decide) (by decide) ?_
      refine lv_istore (lv' := [(6, .int r_26), (5, .int 1), (4, .int 0), (3, .ref ou), (2, .ref mo), (1, .ref h0), (0, .ref b)]) hx hb dL_law_761 hl (by decide) rfl (fun ls hl => ?_)
      refine lv_aload_n hx hb dL_law_763 rfl (lv_at hl 4 rfl) ?_
      have hPc := hP.sub (ws' := [(mo, .inr (9, [.int (u_27.2 0 0), .int (u_27.2 1 0), .ref g2, .ref g3, .ref g4, .ref g5, .ref g6, .ref g7, .ref g8, .ref g9, .ref g10, .ref g11, .ref g12, .ref g13, .ref g14, .ref g15, .ref g16, .ref g17, .ref g18, .ref g19, .int (u_27.2 2 0), .int (u_27.2 3 0), .ref g22, .int (u_27.2 4 0), .ref g24, .int (u_27.2 5 0), .int (u_27.2 6 0), .int (u_27.2 7 0), .ref g28, .ref g29, .int (u_27.2 8 0), .int (u_27.2 9 0)]))]) [1] rfl
      have hDc := hD.sub (ws' := [(mo, .inr (9, [.int (u_27.2 0 0), .int (u_27.2 1 0), .ref g2, .ref g3, .ref g4, .ref g5, .ref g6, .ref g7, .ref g8, .ref g9, .ref g10, .ref g11, .ref g12, .ref g13, .ref g14, .ref g15, .ref g16, .ref g17, .ref g18, .ref g19, .int (u_27.2 2 0), .int (u_27.2 3 0), .ref g22, .int (u_27.2 4 0), .ref g24, .int (u_27.2 5 0), .int (u_27.2 6 0), .int (u_27.2 7 0), .ref g28, .ref g29, .int (u_27.2 8 0), .int (u_27.2 9 0)]))]) [1] (by decide) rfl
      have hFc := va_free (wc := [(mo, .inr (9, [.int (u_27.2 0 0), .int (u_27.2 1 0), .ref g2, .ref g3, .ref g4, .ref g5, .ref g6, .ref g7, .ref g8, .ref g9, .ref g10, .ref g11, .ref g12, .ref g13, .ref g14, .ref g15, .ref g16, .ref g17, .ref g18, .ref g19, .int (u_27.2 2 0), .int (u_27.2 3 0), .ref g22, .int (u_27.2 4 0), .ref g24, .int (u_27.2 5 0), .int (u_27.2 6 0), .int (u_27.2 7 0), .ref g28, .ref g29, .int (u_27.2 8 0), .int (u_27.2 9 0)]))]) hD hS hA [1] rfl
      refine va_calli (va_runV (As := []) (rest := []) ⟨hx, hb, hml, hown, ht⟩ (k9_thrown l D C s.heap.size H.size mo g2 g3 g4 g5 g6 g7 g8 g9 g10 g11 g12 g13 g14 g15 g16 g17 g18 g19 g22 g24 g28 g29 (u_27.2 0 0) (u_27.2 1 0) (u_27.2 2 0) (u_27.2 3 0) (u_27.2 4 0) (u_27.2 5 0) (u_27.2 6 0) (u_27.2 7 0) (u_27.2 8 0) (u_27.2 9 0)) (cwV 0 ht (xg_V m_562 m_563 m_564 m_391 m_221) rfl rfl rfl (by decide +kernel) ⟨Nat.le_of_ble_eq_true rfl, Nat.le_of_ble_eq_true rfl⟩) ⟨xPc_bl, va_recv hK hPc (ci := 9) (q0 := 0) rfl rfl, xPc_at hPc hK hDc hE hS hAb⟩ rfl rfl hl.1 rfl (lv_room (Nat.le_of_ble_eq_true rfl)) dL_law_764 ⟨(by decide), (by decide)⟩) hS (fun q _ h => hFc q h) hFc (fun r_28 u_29 t H1 locs ht1 hvm hw hB hz1 hk1 hS => ?_)
      obtain ⟨hP1, hD1⟩ := hB
      rw [ht1] at hP1
      try dsimp only at hw
      obtain ⟨hP, hD⟩ := va_join (wr := [(ou, .inl (C 2, 1, .inr (.inl (u_18))))]) (w1 := [(mo, .inr (9, [.int (u_27.2 0 0), .int (u_27.2 1 0), .ref g2, .ref g3, .ref g4, .ref g5, .ref g6, .ref g7, .ref g8, .ref g9, .ref g10, .ref g11, .ref g12, .ref g13, .ref g14, .ref g15, .ref g16, .ref g17, .ref g18, .ref g19, .int (u_27.2 2 0), .int (u_27.2 3 0), .ref g22, .int (u_27.2 4 0), .ref g24, .int (u_27.2 5 0), .int (u_27.2 6 0), .int (u_27.2 7 0), .ref g28, .ref g29, .int (u_27.2 8 0), .int (u_27.2 9 0)]))]) hP hD [1] [0] rfl rfl (by decide) (by decide) hk1 hFc hP1 hD1
      generalize H1 = H at hP hS ⊢
      have hP : va_P D vwCl [(ou, .inl (C 2, 1, .inr (.inl (u_18)))), (mo, .inr (9, [.int (u_27.2 0 0), .int (u_27.2 1 0), .ref g2, .ref g3, .ref g4, .ref g5, .ref g6, .ref g7, .ref g8, .ref g9, .ref g10, .ref g11, .ref g12, .ref g13, .ref g14, .ref g15, .ref g16, .ref g17, .ref g18, .ref g19, .int (u_27.2 2 0), .int (u_27.2 3 0), .ref g22, .int (u_27.2 4 0), .ref g24, .int (u_27.2 5 0), .int (u_27.2 6 0), .int (u_27.2 7 0), .ref g28, .ref g29, .int (u_27.2 8 0), .int (u_27.2 9 0)]))] H := hP
      have hD : va_D A [(ou, .inl (C 2, 1, .inr (.inl (u_18)))), (mo, .inr (9, [.int (u_27.2 0 0), .int (u_27.2 1 0), .ref g2, .ref g3, .ref g4, .ref g5, .ref g6, .ref g7, .ref g8, .ref g9, .ref g10, .ref g11, .ref g12, .ref g13, .ref g14, .ref g15, .ref g16, .ref g17, .ref g18, .ref g19, .int (u_27.2 2 0), .int (u_27.2 3 0), .ref g22, .int (u_27.2 4 0), .ref g24, .int (u_27.2 5 0), .int (u_27.2 6 0), .int (u_27.2 7 0), .ref g28, .ref g29, .int (u_27.2 8 0), .int (u_27.2 9 0)]))] := hD
      have hq_764 := hw
      obtain rfl : r_28 = (1 : Int32) := hw.trans hq_758
      refine lv_iload hx hb dL_law_767 (lv_at hl 1 rfl) ?_
      refine lv_icmp_eq (tgt := 774) hx hb dL_law_769 (by decide) (fun c_769 => ?_) (fun c_769 => ?_)
      rotate_left
      · exact absurd c_769 (by decide)
      refine lv_iload hx hb dL_law_774 (lv_at hl 1 rfl) ?_
      refine lv_if_ne (tgt := 798) hx hb dL_law_776 (by decide) (fun c_776 => ?_) (fun c_776 => ?_)
      rotate_left
      · exact absurd c_776 (by decide)
      refine lv_goto (tgt := 1732) hx hb dL_law_798 (by decide) ?_
      exact lc_end ⟨hl0, hx, hb, hr, hml, hown, ht, hX, hbl, hlocks, hK, hE, hA, hAs, hbA⟩ (by decide) (by decide) hS (lv_sub hl [2, 6] rfl)
set_option maxHeartbeats 4000000 in
set_option maxRecDepth 100000 in
theorem lc_remove {p : Program} {l : Launch} {e : Env} {s : State} {m : MethodId} {below : List Frame} {meth : Method} {c : Code} {b : Nat} {xs : Nat → Int32} {D : va_G} {C : Nat → ClassId} {A : Nat → Prop} {h0 s0 de kl tl cu hk ca kx ky tx ty a0 a1 a2 a3 a4 a5 a6 a7 a8 a9 a10 a11 ou mo g2 g3 g4 g5 g6 g7 g8 g9 g10 g11 g12 g13 g14 g15 g16 g17 g18 g19 g22 g24 g28 g29 : Nat} {fo : Nat → Int64} (h : lAt p l s m meth c b 6 xs D C A) {H : Heap} {locs : List Loc} {ls : Array Slot} (hP : va_P D vwCl [(h0, .inr (5, [.ref s0, .ref de, .ref kl, .ref tl, .ref cu, .ref hk, .ref ca, .int 0, .int 0, .int (-1), .int 0, .int 0])), (kl, .inr (2, [.ref kx, .ref ky, .int 0])), (tl, .inr (4, [.ref tx, .ref ty, .int 1])), (s0, .inr (3, [.ref a0, .ref a1, .ref a2, .ref a3, .ref a4, .ref a5, .ref a6, .int 0, .ref a7, .ref a8, .ref a9, .ref a10, .ref a11, .int 0])), (ou, .inl (C 2, 1, .inr (.inl fo))), (mo, .inr (9, [.int 0, .int 0, .ref g2, .ref g3, .ref g4, .ref g5, .ref g6, .ref g7, .ref g8, .ref g9, .ref g10, .ref g11, .ref g12, .ref g13, .ref g14, .ref g15, .ref g16, .ref g17, .ref g18, .ref g19, .int 0, .int 0, .ref g22, .int 0, .ref g24, .int 0, .int 0, .int (-1), .ref g28, .ref g29, .int 0, .int 0]))] H) (hD : va_D A [(h0, .inr (5, [.ref s0, .ref de, .ref kl, .ref tl, .ref cu, .ref hk, .ref ca, .int 0, .int 0, .int (-1), .int 0, .int 0])), (kl, .inr (2, [.ref kx, .ref ky, .int 0])), (tl, .inr (4, [.ref tx, .ref ty, .int 1])), (s0, .inr (3, [.ref a0, .ref a1, .ref a2, .ref a3, .ref a4, .ref a5, .ref a6, .int 0, .ref a7, .ref a8, .ref a9, .ref a10, .ref a11, .int 0])), (ou, .inl (C 2, 1, .inr (.inl fo))), (mo, .inr (9, [.int 0, .int 0, .ref g2, .ref g3, .ref g4, .ref g5, .ref g6, .ref g7, .ref g8, .ref g9, .ref g10, .ref g11, .ref g12, .ref g13, .ref g14, .ref g15, .ref g16, .ref g17, .ref g18, .ref g19, .int 0, .int 0, .ref g22, .int 0, .ref g24, .int 0, .int 0, .int (-1), .ref g28, .ref g29, .int 0, .int 0]))]) (hS : va_S A s.heap H locs) (hl : lv_has ls 7 [(4, .int 0), (3, .ref ou), (2, .ref mo), (1, .ref h0), (0, .ref b)]) : W p l e room_1 s m #[Value.ref b] below meth c H locs 254 111937 (lw_Z below #[Value.ref b] s) (F0 m 801 ls []) := by
  obtain ⟨hl0, hx, hb, hr, hml, hown, ht, hX, hbl, hlocks, hK, hE, hA, hAs, hbA⟩ := h
  have hAb := hAs
  refine lv_aload_n hx hb dL_law_801 rfl (lv_at hl 3 rfl) ?_
  refine lv_aload_n hx hb dL_law_802 rfl (lv_at hl 4 rfl) ?_
  refine lv_iload hx hb dL_law_803 (lv_at hl 0 rfl) ?_
  refine lv_iconst (v := 1) hx hb dL_law_805 (by decide) ?_
  refine lv_iadd hx hb dL_law_806 ?_
  refine lv_topi (fun x_1 ex_1 => ?_)
  obtain rfl : x_1 = (1 : Int32) := ex_1.trans (by decide)
  refine va_sld hx hb hX hbl hbA hS (by unfold vp_in; decide) dL_law_807 ?_
  refine lv_aload_n hx hb dL_law_808 rfl (lv_at hl 4 rfl) ?_
  refine lv_iload hx hb dL_law_809 (lv_at hl 0 rfl) ?_
  refine lv_iconst (v := 2) hx hb dL_law_811 (by decide) ?_
  refine lv_iadd hx hb dL_law_812 ?_
  refine lv_topi (fun x_2 ex_2 => ?_)
  obtain rfl : x_2 = (2 : Int32) := ex_2.trans (by decide)
  refine va_sld hx hb hX hbl hbA hS (by unfold vp_in; decide) dL_law_813 ?_
  refine lv_aload_n hx hb dL_law_814 rfl (lv_at hl 1 rfl) ?_
  have hPc := hP.sub (ws' := [(h0, .inr (5, [.ref s0, .ref de, .ref kl, .ref tl, .ref cu, .ref hk, .ref ca, .int 0, .int 0, .int (-1), .int 0, .int 0])), (kl, .inr (2, [.ref kx, .ref ky, .int 0])), (tl, .inr (4, [.ref tx, .ref ty, .int 1])), (s0, .inr (3, [.ref a0, .ref a1, .ref a2, .ref a3, .ref a4, .ref a5, .ref a6, .int 0, .ref a7, .ref a8, .ref a9, .ref a10, .ref a11, .int 0])), (ou, .inl (C 2, 1, .inr (.inl fo)))]) [0, 1, 2, 3, 4] rfl
  have hDc := hD.sub (ws' := [(h0, .inr (5, [.ref s0, .ref de, .ref kl, .ref tl, .ref cu, .ref hk, .ref ca, .int 0, .int 0, .int (-1), .int 0, .int 0])), (kl, .inr (2, [.ref kx, .ref ky, .int 0])), (tl, .inr (4, [.ref tx, .ref ty, .int 1])), (s0, .inr (3, [.ref a0, .ref a1, .ref a2, .ref a3, .ref a4, .ref a5, .ref a6, .int 0, .ref a7, .ref a8, .ref a9, .ref a10, .ref a11, .int 0])), (ou, .inl (C 2, 1, .inr (.inl fo)))]) [0, 1, 2, 3, 4] (by decide) rfl
  have hFc := va_free (wc := [(h0, .inr (5, [.ref s0, .ref de, .ref kl, .ref tl, .ref cu, .ref hk, .ref ca, .int 0, .int 0, .int (-1), .int 0, .int 0])), (kl, .inr (2, [.ref kx, .ref ky, .int 0])), (tl, .inr (4, [.ref tx, .ref ty, .int 1])), (s0, .inr (3, [.ref a0, .ref a1, .ref a2, .ref a3, .ref a4, .ref a5, .ref a6, .int 0, .ref a7, .ref a8, .ref a9, .ref a10, .ref a11, .int 0])), (ou, .inl (C 2, 1, .inr (.inl fo)))]) hD hS hA [0, 1, 2, 3, 4] rfl
  refine va_calli (vx_runSW (As := [.ref h0, .int (xs (Int32.toNatClampNeg 1)), .int (xs (Int32.toNatClampNeg 2)), .ref ou]) (rest := []) ⟨hx, hb, hml, hown, ht⟩ (kL_remove l hl0 D C s.heap.size H.size h0 s0 de kl tl cu hk ca kx ky tx ty a0 a1 a2 a3 a4 a5 a6 a7 a8 a9 a10 a11 ((xs (Int32.toNatClampNeg 1))) ((xs (Int32.toNatClampNeg 2))) ou fo) (vx_cwSW 4 ht (xg_T m_600 m_601 m_558 m_477) rfl rfl rfl (by decide +kernel) ⟨Nat.le_of_ble_eq_true rfl, Nat.le_of_ble_eq_true rfl⟩) ⟨xPc_bl, xPc_at hPc hK hDc hE hS hAb⟩ rfl rfl hl.1 rfl (lv_room (Nat.le_of_ble_eq_true rfl)) dL_law_815 ⟨(by decide), (by decide)⟩) hS (fun q _ h => hFc q h) hFc (fun r_3 u_4 t H1 locs ht1 hvm hw hB hz1 hk1 hS => ?_)
  obtain ⟨hP1, hD1⟩ := hB
  rw [ht1] at hP1
  try dsimp only at hw
  obtain ⟨hP, hD⟩ := va_join (wr := [(mo, .inr (9, [.int 0, .int 0, .ref g2, .ref g3, .ref g4, .ref g5, .ref g6, .ref g7, .ref g8, .ref g9, .ref g10, .ref g11, .ref g12, .ref g13, .ref g14, .ref g15, .ref g16, .ref g17, .ref g18, .ref g19, .int 0, .int 0, .ref g22, .int 0, .ref g24, .int 0, .int 0, .int (-1), .ref g28, .ref g29, .int 0, .int 0]))]) (w1 := [(ou, .inl (C 2, 1, .inr (.inl (u_4))))]) hP hD [0, 1, 2, 3, 4] [5] rfl rfl (by decide) (by decide) hk1 hFc hP1 hD1
  generalize H1 = H at hP hS ⊢
  have hP : va_P D vwCl [(mo, .inr (9, [.int 0, .int 0, .ref g2, .ref g3, .ref g4, .ref g5, .ref g6, .ref g7, .ref g8, .ref g9, .ref g10, .ref g11, .ref g12, .ref g13, .ref g14, .ref g15, .ref g16, .ref g17, .ref g18, .ref g19, .int 0, .int 0, .ref g22, .int 0, .ref g24, .int 0, .int 0, .int (-1), .ref g28, .ref g29, .int 0, .int 0])), (ou, .inl (C 2, 1, .inr (.inl (u_4))))] H := hP
  have hD : va_D A [(mo, .inr (9, [.int 0, .int 0, .ref g2, .ref g3, .ref g4, .ref g5, .ref g6, .ref g7, .ref g8, .ref g9, .ref g10, .ref g11, .ref g12, .ref g13, .ref g14, .ref g15, .ref g16, .ref g17, .ref g18, .ref g19, .int 0, .int 0, .ref g22, .int 0, .ref g24, .int 0, .int 0, .int (-1), .ref g28, .ref g29, .int 0, .int 0])), (ou, .inl (C 2, 1, .inr (.inl (u_4))))] := hD
  have hq_815 := hw
  obtain rfl : r_3 = (1 : Int32) := hw
  refine W.widen (k := 257) (n := 111955) (by decide) (by decide) ?_
  refine lv_istore (lv' := [(5, .int 1), (4, .int 0), (3, .ref ou), (2, .ref mo), (1, .ref h0), (0, .ref b)]) hx hb dL_law_818 hl (by decide) rfl (fun ls hl => ?_)
  refine lv_aload_n hx hb dL_law_820 rfl (lv_at hl 3 rfl) ?_
  refine lv_aload_n hx hb dL_law_821 rfl (lv_at hl 5 rfl) ?_
  refine lv_iload hx hb dL_law_822 (lv_at hl 1 rfl) ?_
  refine lv_iconst (v := 1) hx hb dL_law_824 (by decide) ?_
  refine lv_iadd hx hb dL_law_825 ?_
  refine lv_topi (fun x_5 ex_5 => ?_)
  obtain rfl : x_5 = (1 : Int32) := ex_5.trans (by decide)
  refine va_sld hx hb hX hbl hbA hS (by unfold vp_in; decide) dL_law_826 ?_
  refine lv_aload_n hx hb dL_law_827 rfl (lv_at hl 5 rfl) ?_
  refine lv_iload hx hb dL_law_828 (lv_at hl 1 rfl) ?_
  refine lv_iconst (v := 2) hx hb dL_law_830 (by decide) ?_
  refine lv_iadd hx hb dL_law_831 ?_
  refine lv_topi (fun x_6 ex_6 => ?_)
  obtain rfl : x_6 = (2 : Int32) := ex_6.trans (by decide)
  refine va_sld hx hb hX hbl hbA hS (by unfold vp_in; decide) dL_law_832 ?_
  have hPc := hP.sub (ws' := [(mo, .inr (9, [.int 0, .int 0, .ref g2, .ref g3, .ref g4, .ref g5, .ref g6, .ref g7, .ref g8, .ref g9, .ref g10, .ref g11, .ref g12, .ref g13, .ref g14, .ref g15, .ref g16, .ref g17, .ref g18, .ref g19, .int 0, .int 0, .ref g22, .int 0, .ref g24, .int 0, .int 0, .int (-1), .ref g28, .ref g29, .int 0, .int 0]))]) [0] rfl
  have hDc := hD.sub (ws' := [(mo, .inr (9, [.int 0, .int 0, .ref g2, .ref g3, .ref g4, .ref g5, .ref g6, .ref g7, .ref g8, .ref g9, .ref g10, .ref g11, .ref g12, .ref g13, .ref g14, .ref g15, .ref g16, .ref g17, .ref g18, .ref g19, .int 0, .int 0, .ref g22, .int 0, .ref g24, .int 0, .int 0, .int (-1), .ref g28, .ref g29, .int 0, .int 0]))]) [0] (by decide) rfl
  have hFc := va_free (wc := [(mo, .inr (9, [.int 0, .int 0, .ref g2, .ref g3, .ref g4, .ref g5, .ref g6, .ref g7, .ref g8, .ref g9, .ref g10, .ref g11, .ref g12, .ref g13, .ref g14, .ref g15, .ref g16, .ref g17, .ref g18, .ref g19, .int 0, .int 0, .ref g22, .int 0, .ref g24, .int 0, .int 0, .int (-1), .ref g28, .ref g29, .int 0, .int 0]))]) hD hS hA [0] rfl
  refine va_calli (vx_runVW (As := [.int (xs (Int32.toNatClampNeg 1)), .int (xs (Int32.toNatClampNeg 2))]) (rest := []) ⟨hx, hb, hml, hown, ht⟩ (k9p_remove l D C s.heap.size H.size mo g2 g3 g4 g5 g6 g7 g8 g9 g10 g11 g12 g13 g14 g15 g16 g17 g18 g19 g22 g24 g28 g29 ((xs (Int32.toNatClampNeg 1))) ((xs (Int32.toNatClampNeg 2)))) (vx_cwVW 2 ht (xg_V m_602 m_603 m_604 m_391 m_233) rfl rfl rfl (by decide +kernel) ⟨Nat.le_of_ble_eq_true rfl, Nat.le_of_ble_eq_true rfl⟩) ⟨xPc_bl, va_recv hK hPc (ci := 9) (q0 := 0) rfl rfl, xPc_at hPc hK hDc hE hS hAb⟩ rfl rfl hl.1 rfl (lv_room (Nat.le_of_ble_eq_true rfl)) dL_law_833 ⟨(by decide), (by decide)⟩) hS (fun q _ h => hFc q h) hFc (fun r_7 u_8 t H1 locs ht1 hvm hw hB hz1 hk1 hS => ?_)
  obtain ⟨hP1, hD1⟩ := hB
  rw [ht1] at hP1
  try dsimp only at hw
  obtain ⟨hP, hD⟩ := va_join (wr := [(ou, .inl (C 2, 1, .inr (.inl (u_4))))]) (w1 := [(mo, .inr (9, [.int (u_8.2 0 0), .int (u_8.2 1 0), .ref g2, .ref g3, .ref g4, .ref g5, .ref g6, .ref g7, .ref g8, .ref g9, .ref g10, .ref g11, .ref g12, .ref g13, .ref g14, .ref g15, .ref g16, .ref g17, .ref g18, .ref g19, .int (u_8.2 2 0), .int (u_8.2 3 0), .ref g22, .int (u_8.2 4 0), .ref g24, .int (u_8.2 5 0), .int (u_8.2 6 0), .int (u_8.2 7 0), .ref g28, .ref g29, .int (u_8.2 8 0), .int (u_8.2 9 0)]))]) hP hD [0] [1] rfl rfl (by decide) (by decide) hk1 hFc hP1 hD1
  generalize H1 = H at hP hS ⊢
  have hP : va_P D vwCl [(ou, .inl (C 2, 1, .inr (.inl (u_4)))), (mo, .inr (9, [.int (u_8.2 0 0), .int (u_8.2 1 0), .ref g2, .ref g3, .ref g4, .ref g5, .ref g6, .ref g7, .ref g8, .ref g9, .ref g10, .ref g11, .ref g12, .ref g13, .ref g14, .ref g15, .ref g16, .ref g17, .ref g18, .ref g19, .int (u_8.2 2 0), .int (u_8.2 3 0), .ref g22, .int (u_8.2 4 0), .ref g24, .int (u_8.2 5 0), .int (u_8.2 6 0), .int (u_8.2 7 0), .ref g28, .ref g29, .int (u_8.2 8 0), .int (u_8.2 9 0)]))] H := hP
  have hD : va_D A [(ou, .inl (C 2, 1, .inr (.inl (u_4)))), (mo, .inr (9, [.int (u_8.2 0 0), .int (u_8.2 1 0), .ref g2, .ref g3, .ref g4, .ref g5, .ref g6, .ref g7, .ref g8, .ref g9, .ref g10, .ref g11, .ref g12, .ref g13, .ref g14, .ref g15, .ref g16, .ref g17, .ref g18, .ref g19, .int (u_8.2 2 0), .int (u_8.2 3 0), .ref g22, .int (u_8.2 4 0), .ref g24, .int (u_8.2 5 0), .int (u_8.2 6 0), .int (u_8.2 7 0), .ref g28, .ref g29, .int (u_8.2 8 0), .int (u_8.2 9 0)]))] := hD
  have hq_833 := hw
  refine W.widen (k := 258) (n := 111962) (by decide) (by decide) ?_
  refine lv_istore (lv' := [(6, .int r_7), (5, .int 1), (4, .int 0), (3, .ref ou), (2, .ref mo), (1, .ref h0), (0, .ref b)]) hx hb dL_law_836 hl (by decide) rfl (fun ls hl => ?_)
  refine lv_aload_n hx hb dL_law_838 rfl (lv_at hl 4 rfl) ?_
  have hPc := hP.sub (ws' := [(mo, .inr (9, [.int (u_8.2 0 0), .int (u_8.2 1 0), .ref g2, .ref g3, .ref g4, .ref g5, .ref g6, .ref g7, .ref g8, .ref g9, .ref g10, .ref g11, .ref g12, .ref g13, .ref g14, .ref g15, .ref g16, .ref g17, .ref g18, .ref g19, .int (u_8.2 2 0), .int (u_8.2 3 0), .ref g22, .int (u_8.2 4 0), .ref g24, .int (u_8.2 5 0), .int (u_8.2 6 0), .int (u_8.2 7 0), .ref g28, .ref g29, .int (u_8.2 8 0), .int (u_8.2 9 0)]))]) [1] rfl
  have hDc := hD.sub (ws' := [(mo, .inr (9, [.int (u_8.2 0 0), .int (u_8.2 1 0), .ref g2, .ref g3, .ref g4, .ref g5, .ref g6, .ref g7, .ref g8, .ref g9, .ref g10, .ref g11, .ref g12, .ref g13, .ref g14, .ref g15, .ref g16, .ref g17, .ref g18, .ref g19, .int (u_8.2 2 0), .int (u_8.2 3 0), .ref g22, .int (u_8.2 4 0), .ref g24, .int (u_8.2 5 0), .int (u_8.2 6 0), .int (u_8.2 7 0), .ref g28, .ref g29, .int (u_8.2 8 0), .int (u_8.2 9 0)]))]) [1] (by decide) rfl
  have hFc := va_free (wc := [(mo, .inr (9, [.int (u_8.2 0 0), .int (u_8.2 1 0), .ref g2, .ref g3, .ref g4, .ref g5, .ref g6, .ref g7, .ref g8, .ref g9, .ref g10, .ref g11, .ref g12, .ref g13, .ref g14, .ref g15, .ref g16, .ref g17, .ref g18, .ref g19, .int (u_8.2 2 0), .int (u_8.2 3 0), .ref g22, .int (u_8.2 4 0), .ref g24, .int (u_8.2 5 0), .int (u_8.2 6 0), .int (u_8.2 7 0), .ref g28, .ref g29, .int (u_8.2 8 0), .int (u_8.2 9 0)]))]) hD hS hA [1] rfl
  refine va_calli (va_runV (As := []) (rest := []) ⟨hx, hb, hml, hown, ht⟩ (k9_thrown l D C s.heap.size H.size mo g2 g3 g4 g5 g6 g7 g8 g9 g10 g11 g12 g13 g14 g15 g16 g17 g18 g19 g22 g24 g28 g29 (u_8.2 0 0) (u_8.2 1 0) (u_8.2 2 0) (u_8.2 3 0) (u_8.2 4 0) (u_8.2 5 0) (u_8.2 6 0) (u_8.2 7 0) (u_8.2 8 0) (u_8.2 9 0)) (cwV 0 ht (xg_V m_562 m_563 m_564 m_391 m_221) rfl rfl rfl (by decide +kernel) ⟨Nat.le_of_ble_eq_true rfl, Nat.le_of_ble_eq_true rfl⟩) ⟨xPc_bl, va_recv hK hPc (ci := 9) (q0 := 0) rfl rfl, xPc_at hPc hK hDc hE hS hAb⟩ rfl rfl hl.1 rfl (lv_room (Nat.le_of_ble_eq_true rfl)) dL_law_839 ⟨(by decide), (by decide)⟩) hS (fun q _ h => hFc q h) hFc (fun r_9 u_10 t H1 locs ht1 hvm hw hB hz1 hk1 hS => ?_)
  obtain ⟨hP1, hD1⟩ := hB
  rw [ht1] at hP1
  try dsimp only at hw
  obtain ⟨hP, hD⟩ := va_join (wr := [(ou, .inl (C 2, 1, .inr (.inl (u_4))))]) (w1 := [(mo, .inr (9, [.int (u_8.2 0 0), .int (u_8.2 1 0), .ref g2, .ref g3, .ref g4, .ref g5, .ref g6, .ref g7, .ref g8, .ref g9, .ref g10, .ref g11, .ref g12, .ref g13, .ref g14, .ref g15, .ref g16, .ref g17, .ref g18, .ref g19, .int (u_8.2 2 0), .int (u_8.2 3 0), .ref g22, .int (u_8.2 4 0), .ref g24, .int (u_8.2 5 0), .int (u_8.2 6 0), .int (u_8.2 7 0), .ref g28, .ref g29, .int (u_8.2 8 0), .int (u_8.2 9 0)]))]) hP hD [1] [0] rfl rfl (by decide) (by decide) hk1 hFc hP1 hD1
  generalize H1 = H at hP hS ⊢
  have hP : va_P D vwCl [(ou, .inl (C 2, 1, .inr (.inl (u_4)))), (mo, .inr (9, [.int (u_8.2 0 0), .int (u_8.2 1 0), .ref g2, .ref g3, .ref g4, .ref g5, .ref g6, .ref g7, .ref g8, .ref g9, .ref g10, .ref g11, .ref g12, .ref g13, .ref g14, .ref g15, .ref g16, .ref g17, .ref g18, .ref g19, .int (u_8.2 2 0), .int (u_8.2 3 0), .ref g22, .int (u_8.2 4 0), .ref g24, .int (u_8.2 5 0), .int (u_8.2 6 0), .int (u_8.2 7 0), .ref g28, .ref g29, .int (u_8.2 8 0), .int (u_8.2 9 0)]))] H := hP
  have hD : va_D A [(ou, .inl (C 2, 1, .inr (.inl (u_4)))), (mo, .inr (9, [.int (u_8.2 0 0), .int (u_8.2 1 0), .ref g2, .ref g3, .ref g4, .ref g5, .ref g6, .ref g7, .ref g8, .ref g9, .ref g10, .ref g11, .ref g12, .ref g13, .ref g14, .ref g15, .ref g16, .ref g17, .ref g18, .ref g19, .int (u_8.2 2 0), .int (u_8.2 3 0), .ref g22, .int (u_8.2 4 0), .ref g24, .int (u_8.2 5 0), .int (u_8.2 6 0), .int (u_8.2 7 0), .ref g28, .ref g29, .int (u_8.2 8 0), .int (u_8.2 9 0)]))] := hD
  have hq_839 := hw
  obtain rfl : r_9 = (1 : Int32) := hw.trans hq_833
  refine lv_iload hx hb dL_law_842 (lv_at hl 1 rfl) ?_
  refine lv_icmp_eq (tgt := 849) hx hb dL_law_844 (by decide) (fun c_844 => ?_) (fun c_844 => ?_)
  rotate_left
  · exact absurd c_844 (by decide)
  refine lv_iload hx hb dL_law_849 (lv_at hl 1 rfl) ?_
  refine lv_if_ne (tgt := 873) hx hb dL_law_851 (by decide) (fun c_851 => ?_) (fun c_851 => ?_)
  rotate_left
  · exact absurd c_851 (by decide)
  refine lv_goto (tgt := 1732) hx hb dL_law_873 (by decide) ?_
  exact lc_end ⟨hl0, hx, hb, hr, hml, hown, ht, hX, hbl, hlocks, hK, hE, hA, hAs, hbA⟩ (by decide) (by decide) hS (lv_sub hl [2, 6] rfl)
set_option maxHeartbeats 4000000 in
set_option maxRecDepth 100000 in
theorem lc_define {p : Program} {l : Launch} {e : Env} {s : State} {m : MethodId} {below : List Frame} {meth : Method} {c : Code} {b : Nat} {xs : Nat → Int32} {D : va_G} {C : Nat → ClassId} {A : Nat → Prop} {h0 s0 de kl tl cu hk ca kx ky tx ty a0 a1 a2 a3 a4 a5 a6 a7 a8 a9 a10 a11 ou mo g2 g3 g4 g5 g6 g7 g8 g9 g10 g11 g12 g13 g14 g15 g16 g17 g18 g19 g22 g24 g28 g29 : Nat} {fo : Nat → Int64} (h : lAt p l s m meth c b 6 xs D C A) {H : Heap} {locs : List Loc} {ls : Array Slot} (hP : va_P D vwCl [(h0, .inr (5, [.ref s0, .ref de, .ref kl, .ref tl, .ref cu, .ref hk, .ref ca, .int 0, .int 0, .int (-1), .int 0, .int 0])), (kl, .inr (2, [.ref kx, .ref ky, .int 0])), (tl, .inr (4, [.ref tx, .ref ty, .int 1])), (s0, .inr (3, [.ref a0, .ref a1, .ref a2, .ref a3, .ref a4, .ref a5, .ref a6, .int 0, .ref a7, .ref a8, .ref a9, .ref a10, .ref a11, .int 0])), (ou, .inl (C 2, 1, .inr (.inl fo))), (mo, .inr (9, [.int 0, .int 0, .ref g2, .ref g3, .ref g4, .ref g5, .ref g6, .ref g7, .ref g8, .ref g9, .ref g10, .ref g11, .ref g12, .ref g13, .ref g14, .ref g15, .ref g16, .ref g17, .ref g18, .ref g19, .int 0, .int 0, .ref g22, .int 0, .ref g24, .int 0, .int 0, .int (-1), .ref g28, .ref g29, .int 0, .int 0]))] H) (hD : va_D A [(h0, .inr (5, [.ref s0, .ref de, .ref kl, .ref tl, .ref cu, .ref hk, .ref ca, .int 0, .int 0, .int (-1), .int 0, .int 0])), (kl, .inr (2, [.ref kx, .ref ky, .int 0])), (tl, .inr (4, [.ref tx, .ref ty, .int 1])), (s0, .inr (3, [.ref a0, .ref a1, .ref a2, .ref a3, .ref a4, .ref a5, .ref a6, .int 0, .ref a7, .ref a8, .ref a9, .ref a10, .ref a11, .int 0])), (ou, .inl (C 2, 1, .inr (.inl fo))), (mo, .inr (9, [.int 0, .int 0, .ref g2, .ref g3, .ref g4, .ref g5, .ref g6, .ref g7, .ref g8, .ref g9, .ref g10, .ref g11, .ref g12, .ref g13, .ref g14, .ref g15, .ref g16, .ref g17, .ref g18, .ref g19, .int 0, .int 0, .ref g22, .int 0, .ref g24, .int 0, .int 0, .int (-1), .ref g28, .ref g29, .int 0, .int 0]))]) (hS : va_S A s.heap H locs) (hl : lv_has ls 7 [(4, .int 0), (3, .ref ou), (2, .ref mo), (1, .ref h0), (0, .ref b)]) : W p l e room_1 s m #[Value.ref b] below meth c H locs 254 111937 (lw_Z below #[Value.ref b] s) (F0 m 876 ls []) := by
  obtain ⟨hl0, hx, hb, hr, hml, hown, ht, hX, hbl, hlocks, hK, hE, hA, hAs, hbA⟩ := h
  have hAb := hAs
  refine lv_aload_n hx hb dL_law_876 rfl (lv_at hl 3 rfl) ?_
  refine lv_aload_n hx hb dL_law_877 rfl (lv_at hl 4 rfl) ?_
  refine lv_iload hx hb dL_law_878 (lv_at hl 0 rfl) ?_
  refine lv_iconst (v := 1) hx hb dL_law_880 (by decide) ?_
  refine lv_iadd hx hb dL_law_881 ?_
  refine lv_topi (fun x_1 ex_1 => ?_)
  obtain rfl : x_1 = (1 : Int32) := ex_1.trans (by decide)
  refine va_sld hx hb hX hbl hbA hS (by unfold vp_in; decide) dL_law_882 ?_
  refine lv_aload_n hx hb dL_law_883 rfl (lv_at hl 4 rfl) ?_
  refine lv_iload hx hb dL_law_884 (lv_at hl 0 rfl) ?_
  refine lv_iconst (v := 2) hx hb dL_law_886 (by decide) ?_
  refine lv_iadd hx hb dL_law_887 ?_
  refine lv_topi (fun x_2 ex_2 => ?_)
  obtain rfl : x_2 = (2 : Int32) := ex_2.trans (by decide)
  refine va_sld hx hb hX hbl hbA hS (by unfold vp_in; decide) dL_law_888 ?_
  refine lv_aload_n hx hb dL_law_889 rfl (lv_at hl 4 rfl) ?_
  refine lv_iload hx hb dL_law_890 (lv_at hl 0 rfl) ?_
  refine lv_iconst (v := 3) hx hb dL_law_892 (by decide) ?_
  refine lv_iadd hx hb dL_law_893 ?_
  refine lv_topi (fun x_3 ex_3 => ?_)
  obtain rfl : x_3 = (3 : Int32) := ex_3.trans (by decide)
  refine va_sld hx hb hX hbl hbA hS (by unfold vp_in; decide) dL_law_894 ?_
  refine lv_aload_n hx hb dL_law_895 rfl (lv_at hl 4 rfl) ?_
  refine lv_iload hx hb dL_law_896 (lv_at hl 0 rfl) ?_
  refine lv_iconst (v := 4) hx hb dL_law_898 (by decide) ?_
  refine lv_iadd hx hb dL_law_899 ?_
  refine lv_topi (fun x_4 ex_4 => ?_)
  obtain rfl : x_4 = (4 : Int32) := ex_4.trans (by decide)
  refine va_sld hx hb hX hbl hbA hS (by unfold vp_in; decide) dL_law_900 ?_
  refine lv_aload_n hx hb dL_law_901 rfl (lv_at hl 4 rfl) ?_
  refine lv_iload hx hb dL_law_902 (lv_at hl 0 rfl) ?_
  refine lv_iconst (v := 5) hx hb dL_law_904 (by decide) ?_
  refine lv_iadd hx hb dL_law_905 ?_
  refine lv_topi (fun x_5 ex_5 => ?_)
  obtain rfl : x_5 = (5 : Int32) := ex_5.trans (by decide)
  refine va_sld hx hb hX hbl hbA hS (by unfold vp_in; decide) dL_law_906 ?_
  refine lv_aload_n hx hb dL_law_907 rfl (lv_at hl 1 rfl) ?_
  have hPc := hP.sub (ws' := [(h0, .inr (5, [.ref s0, .ref de, .ref kl, .ref tl, .ref cu, .ref hk, .ref ca, .int 0, .int 0, .int (-1), .int 0, .int 0])), (kl, .inr (2, [.ref kx, .ref ky, .int 0])), (tl, .inr (4, [.ref tx, .ref ty, .int 1])), (s0, .inr (3, [.ref a0, .ref a1, .ref a2, .ref a3, .ref a4, .ref a5, .ref a6, .int 0, .ref a7, .ref a8, .ref a9, .ref a10, .ref a11, .int 0])), (ou, .inl (C 2, 1, .inr (.inl fo)))]) [0, 1, 2, 3, 4] rfl
  have hDc := hD.sub (ws' := [(h0, .inr (5, [.ref s0, .ref de, .ref kl, .ref tl, .ref cu, .ref hk, .ref ca, .int 0, .int 0, .int (-1), .int 0, .int 0])), (kl, .inr (2, [.ref kx, .ref ky, .int 0])), (tl, .inr (4, [.ref tx, .ref ty, .int 1])), (s0, .inr (3, [.ref a0, .ref a1, .ref a2, .ref a3, .ref a4, .ref a5, .ref a6, .int 0, .ref a7, .ref a8, .ref a9, .ref a10, .ref a11, .int 0])), (ou, .inl (C 2, 1, .inr (.inl fo)))]) [0, 1, 2, 3, 4] (by decide) rfl
  have hFc := va_free (wc := [(h0, .inr (5, [.ref s0, .ref de, .ref kl, .ref tl, .ref cu, .ref hk, .ref ca, .int 0, .int 0, .int (-1), .int 0, .int 0])), (kl, .inr (2, [.ref kx, .ref ky, .int 0])), (tl, .inr (4, [.ref tx, .ref ty, .int 1])), (s0, .inr (3, [.ref a0, .ref a1, .ref a2, .ref a3, .ref a4, .ref a5, .ref a6, .int 0, .ref a7, .ref a8, .ref a9, .ref a10, .ref a11, .int 0])), (ou, .inl (C 2, 1, .inr (.inl fo)))]) hD hS hA [0, 1, 2, 3, 4] rfl
  refine va_calli (vx_runSW (As := [.ref h0, .int (xs (Int32.toNatClampNeg 1)), .int (xs (Int32.toNatClampNeg 2)), .int (xs (Int32.toNatClampNeg 3)), .int (xs (Int32.toNatClampNeg 4)), .int (xs (Int32.toNatClampNeg 5)), .ref ou]) (rest := []) ⟨hx, hb, hml, hown, ht⟩ (kL_define l hl0 D C s.heap.size H.size h0 s0 de kl tl cu hk ca kx ky tx ty a0 a1 a2 a3 a4 a5 a6 a7 a8 a9 a10 a11 ((xs (Int32.toNatClampNeg 1))) ((xs (Int32.toNatClampNeg 2))) ((xs (Int32.toNatClampNeg 3))) ((xs (Int32.toNatClampNeg 4))) ((xs (Int32.toNatClampNeg 5))) ou fo) (vx_cwSW 7 ht (xg_T m_605 m_606 m_558 m_478) rfl rfl rfl (by decide +kernel) ⟨Nat.le_of_ble_eq_true rfl, Nat.le_of_ble_eq_true rfl⟩) ⟨xPc_bl, xPc_at hPc hK hDc hE hS hAb⟩ rfl rfl hl.1 rfl (lv_room (Nat.le_of_ble_eq_true rfl)) dL_law_908 ⟨(by decide), (by decide)⟩) hS (fun q _ h => hFc q h) hFc (fun r_6 u_7 t H1 locs ht1 hvm hw hB hz1 hk1 hS => ?_)
  obtain ⟨hP1, hD1⟩ := hB
  rw [ht1] at hP1
  try dsimp only at hw
  obtain ⟨hP, hD⟩ := va_join (wr := [(mo, .inr (9, [.int 0, .int 0, .ref g2, .ref g3, .ref g4, .ref g5, .ref g6, .ref g7, .ref g8, .ref g9, .ref g10, .ref g11, .ref g12, .ref g13, .ref g14, .ref g15, .ref g16, .ref g17, .ref g18, .ref g19, .int 0, .int 0, .ref g22, .int 0, .ref g24, .int 0, .int 0, .int (-1), .ref g28, .ref g29, .int 0, .int 0]))]) (w1 := [(ou, .inl (C 2, 1, .inr (.inl (u_7))))]) hP hD [0, 1, 2, 3, 4] [5] rfl rfl (by decide) (by decide) hk1 hFc hP1 hD1
  generalize H1 = H at hP hS ⊢
  have hP : va_P D vwCl [(mo, .inr (9, [.int 0, .int 0, .ref g2, .ref g3, .ref g4, .ref g5, .ref g6, .ref g7, .ref g8, .ref g9, .ref g10, .ref g11, .ref g12, .ref g13, .ref g14, .ref g15, .ref g16, .ref g17, .ref g18, .ref g19, .int 0, .int 0, .ref g22, .int 0, .ref g24, .int 0, .int 0, .int (-1), .ref g28, .ref g29, .int 0, .int 0])), (ou, .inl (C 2, 1, .inr (.inl (u_7))))] H := hP
  have hD : va_D A [(mo, .inr (9, [.int 0, .int 0, .ref g2, .ref g3, .ref g4, .ref g5, .ref g6, .ref g7, .ref g8, .ref g9, .ref g10, .ref g11, .ref g12, .ref g13, .ref g14, .ref g15, .ref g16, .ref g17, .ref g18, .ref g19, .int 0, .int 0, .ref g22, .int 0, .ref g24, .int 0, .int 0, .int (-1), .ref g28, .ref g29, .int 0, .int 0])), (ou, .inl (C 2, 1, .inr (.inl (u_7))))] := hD
  have hq_908 := hw
  obtain rfl : r_6 = (1 : Int32) := hw
  refine W.widen (k := 257) (n := 111955) (by decide) (by decide) ?_
  refine lv_istore (lv' := [(5, .int 1), (4, .int 0), (3, .ref ou), (2, .ref mo), (1, .ref h0), (0, .ref b)]) hx hb dL_law_911 hl (by decide) rfl (fun ls hl => ?_)
  refine lv_aload_n hx hb dL_law_913 rfl (lv_at hl 3 rfl) ?_
  refine lv_aload_n hx hb dL_law_914 rfl (lv_at hl 5 rfl) ?_
  refine lv_iload hx hb dL_law_915 (lv_at hl 1 rfl) ?_
  refine lv_iconst (v := 1) hx hb dL_law_917 (by decide) ?_
  refine lv_iadd hx hb dL_law_918 ?_
  refine lv_topi (fun x_8 ex_8 => ?_)
  obtain rfl : x_8 = (1 : Int32) := ex_8.trans (by decide)
  refine va_sld hx hb hX hbl hbA hS (by unfold vp_in; decide) dL_law_919 ?_
  refine lv_aload_n hx hb dL_law_920 rfl (lv_at hl 5 rfl) ?_
  refine lv_iload hx hb dL_law_921 (lv_at hl 1 rfl) ?_
  refine lv_iconst (v := 2) hx hb dL_law_923 (by decide) ?_
  refine lv_iadd hx hb dL_law_924 ?_
  refine lv_topi (fun x_9 ex_9 => ?_)
  obtain rfl : x_9 = (2 : Int32) := ex_9.trans (by decide)
  refine va_sld hx hb hX hbl hbA hS (by unfold vp_in; decide) dL_law_925 ?_
  refine lv_aload_n hx hb dL_law_926 rfl (lv_at hl 5 rfl) ?_
  refine lv_iload hx hb dL_law_927 (lv_at hl 1 rfl) ?_
  refine lv_iconst (v := 3) hx hb dL_law_929 (by decide) ?_
  refine lv_iadd hx hb dL_law_930 ?_
  refine lv_topi (fun x_10 ex_10 => ?_)
  obtain rfl : x_10 = (3 : Int32) := ex_10.trans (by decide)
  refine va_sld hx hb hX hbl hbA hS (by unfold vp_in; decide) dL_law_931 ?_
  refine lv_aload_n hx hb dL_law_932 rfl (lv_at hl 5 rfl) ?_
  refine lv_iload hx hb dL_law_933 (lv_at hl 1 rfl) ?_
  refine lv_iconst (v := 4) hx hb dL_law_935 (by decide) ?_
  refine lv_iadd hx hb dL_law_936 ?_
  refine lv_topi (fun x_11 ex_11 => ?_)
  obtain rfl : x_11 = (4 : Int32) := ex_11.trans (by decide)
  refine va_sld hx hb hX hbl hbA hS (by unfold vp_in; decide) dL_law_937 ?_
  refine lv_aload_n hx hb dL_law_938 rfl (lv_at hl 5 rfl) ?_
  refine lv_iload hx hb dL_law_939 (lv_at hl 1 rfl) ?_
  refine lv_iconst (v := 5) hx hb dL_law_941 (by decide) ?_
  refine lv_iadd hx hb dL_law_942 ?_
  refine lv_topi (fun x_12 ex_12 => ?_)
  obtain rfl : x_12 = (5 : Int32) := ex_12.trans (by decide)
  refine va_sld hx hb hX hbl hbA hS (by unfold vp_in; decide) dL_law_943 ?_
  have hPc := hP.sub (ws' := [(mo, .inr (9, [.int 0, .int 0, .ref g2, .ref g3, .ref g4, .ref g5, .ref g6, .ref g7, .ref g8, .ref g9, .ref g10, .ref g11, .ref g12, .ref g13, .ref g14, .ref g15, .ref g16, .ref g17, .ref g18, .ref g19, .int 0, .int 0, .ref g22, .int 0, .ref g24, .int 0, .int 0, .int (-1), .ref g28, .ref g29, .int 0, .int 0]))]) [0] rfl
  have hDc := hD.sub (ws' := [(mo, .inr (9, [.int 0, .int 0, .ref g2, .ref g3, .ref g4, .ref g5, .ref g6, .ref g7, .ref g8, .ref g9, .ref g10, .ref g11, .ref g12, .ref g13, .ref g14, .ref g15, .ref g16, .ref g17, .ref g18, .ref g19, .int 0, .int 0, .ref g22, .int 0, .ref g24, .int 0, .int 0, .int (-1), .ref g28, .ref g29, .int 0, .int 0]))]) [0] (by decide) rfl
  have hFc := va_free (wc := [(mo, .inr (9, [.int 0, .int 0, .ref g2, .ref g3, .ref g4, .ref g5, .ref g6, .ref g7, .ref g8, .ref g9, .ref g10, .ref g11, .ref g12, .ref g13, .ref g14, .ref g15, .ref g16, .ref g17, .ref g18, .ref g19, .int 0, .int 0, .ref g22, .int 0, .ref g24, .int 0, .int 0, .int (-1), .ref g28, .ref g29, .int 0, .int 0]))]) hD hS hA [0] rfl
  refine va_calli (vx_runVW (As := [.int (xs (Int32.toNatClampNeg 1)), .int (xs (Int32.toNatClampNeg 2)), .int (xs (Int32.toNatClampNeg 3)), .int (xs (Int32.toNatClampNeg 4)), .int (xs (Int32.toNatClampNeg 5))]) (rest := []) ⟨hx, hb, hml, hown, ht⟩ (k9p_define l D C s.heap.size H.size mo g2 g3 g4 g5 g6 g7 g8 g9 g10 g11 g12 g13 g14 g15 g16 g17 g18 g19 g22 g24 g28 g29 ((xs (Int32.toNatClampNeg 1))) ((xs (Int32.toNatClampNeg 2))) ((xs (Int32.toNatClampNeg 3))) ((xs (Int32.toNatClampNeg 4))) ((xs (Int32.toNatClampNeg 5)))) (vx_cwVW 5 ht (xg_V m_607 m_608 m_609 m_391 m_234) rfl rfl rfl (by decide +kernel) ⟨Nat.le_of_ble_eq_true rfl, Nat.le_of_ble_eq_true rfl⟩) ⟨xPc_bl, va_recv hK hPc (ci := 9) (q0 := 0) rfl rfl, xPc_at hPc hK hDc hE hS hAb⟩ rfl rfl hl.1 rfl (lv_room (Nat.le_of_ble_eq_true rfl)) dL_law_944 ⟨(by decide), (by decide)⟩) hS (fun q _ h => hFc q h) hFc (fun r_13 u_14 t H1 locs ht1 hvm hw hB hz1 hk1 hS => ?_)
  obtain ⟨hP1, hD1⟩ := hB
  rw [ht1] at hP1
  try dsimp only at hw
  obtain ⟨hP, hD⟩ := va_join (wr := [(ou, .inl (C 2, 1, .inr (.inl (u_7))))]) (w1 := [(mo, .inr (9, [.int (u_14.2 0 0), .int (u_14.2 1 0), .ref g2, .ref g3, .ref g4, .ref g5, .ref g6, .ref g7, .ref g8, .ref g9, .ref g10, .ref g11, .ref g12, .ref g13, .ref g14, .ref g15, .ref g16, .ref g17, .ref g18, .ref g19, .int (u_14.2 2 0), .int (u_14.2 3 0), .ref g22, .int (u_14.2 4 0), .ref g24, .int (u_14.2 5 0), .int (u_14.2 6 0), .int (u_14.2 7 0), .ref g28, .ref g29, .int (u_14.2 8 0), .int (u_14.2 9 0)]))]) hP hD [0] [1] rfl rfl (by decide) (by decide) hk1 hFc hP1 hD1
  generalize H1 = H at hP hS ⊢
  have hP : va_P D vwCl [(ou, .inl (C 2, 1, .inr (.inl (u_7)))), (mo, .inr (9, [.int (u_14.2 0 0), .int (u_14.2 1 0), .ref g2, .ref g3, .ref g4, .ref g5, .ref g6, .ref g7, .ref g8, .ref g9, .ref g10, .ref g11, .ref g12, .ref g13, .ref g14, .ref g15, .ref g16, .ref g17, .ref g18, .ref g19, .int (u_14.2 2 0), .int (u_14.2 3 0), .ref g22, .int (u_14.2 4 0), .ref g24, .int (u_14.2 5 0), .int (u_14.2 6 0), .int (u_14.2 7 0), .ref g28, .ref g29, .int (u_14.2 8 0), .int (u_14.2 9 0)]))] H := hP
  have hD : va_D A [(ou, .inl (C 2, 1, .inr (.inl (u_7)))), (mo, .inr (9, [.int (u_14.2 0 0), .int (u_14.2 1 0), .ref g2, .ref g3, .ref g4, .ref g5, .ref g6, .ref g7, .ref g8, .ref g9, .ref g10, .ref g11, .ref g12, .ref g13, .ref g14, .ref g15, .ref g16, .ref g17, .ref g18, .ref g19, .int (u_14.2 2 0), .int (u_14.2 3 0), .ref g22, .int (u_14.2 4 0), .ref g24, .int (u_14.2 5 0), .int (u_14.2 6 0), .int (u_14.2 7 0), .ref g28, .ref g29, .int (u_14.2 8 0), .int (u_14.2 9 0)]))] := hD
  have hq_944 := hw
  refine W.widen (k := 258) (n := 111962) (by decide) (by decide) ?_
  refine lv_istore (lv' := [(6, .int r_13), (5, .int 1), (4, .int 0), (3, .ref ou), (2, .ref mo), (1, .ref h0), (0, .ref b)]) hx hb dL_law_947 hl (by decide) rfl (fun ls hl => ?_)
  refine lv_aload_n hx hb dL_law_949 rfl (lv_at hl 4 rfl) ?_
  have hPc := hP.sub (ws' := [(mo, .inr (9, [.int (u_14.2 0 0), .int (u_14.2 1 0), .ref g2, .ref g3, .ref g4, .ref g5, .ref g6, .ref g7, .ref g8, .ref g9, .ref g10, .ref g11, .ref g12, .ref g13, .ref g14, .ref g15, .ref g16, .ref g17, .ref g18, .ref g19, .int (u_14.2 2 0), .int (u_14.2 3 0), .ref g22, .int (u_14.2 4 0), .ref g24, .int (u_14.2 5 0), .int (u_14.2 6 0), .int (u_14.2 7 0), .ref g28, .ref g29, .int (u_14.2 8 0), .int (u_14.2 9 0)]))]) [1] rfl
  have hDc := hD.sub (ws' := [(mo, .inr (9, [.int (u_14.2 0 0), .int (u_14.2 1 0), .ref g2, .ref g3, .ref g4, .ref g5, .ref g6, .ref g7, .ref g8, .ref g9, .ref g10, .ref g11, .ref g12, .ref g13, .ref g14, .ref g15, .ref g16, .ref g17, .ref g18, .ref g19, .int (u_14.2 2 0), .int (u_14.2 3 0), .ref g22, .int (u_14.2 4 0), .ref g24, .int (u_14.2 5 0), .int (u_14.2 6 0), .int (u_14.2 7 0), .ref g28, .ref g29, .int (u_14.2 8 0), .int (u_14.2 9 0)]))]) [1] (by decide) rfl
  have hFc := va_free (wc := [(mo, .inr (9, [.int (u_14.2 0 0), .int (u_14.2 1 0), .ref g2, .ref g3, .ref g4, .ref g5, .ref g6, .ref g7, .ref g8, .ref g9, .ref g10, .ref g11, .ref g12, .ref g13, .ref g14, .ref g15, .ref g16, .ref g17, .ref g18, .ref g19, .int (u_14.2 2 0), .int (u_14.2 3 0), .ref g22, .int (u_14.2 4 0), .ref g24, .int (u_14.2 5 0), .int (u_14.2 6 0), .int (u_14.2 7 0), .ref g28, .ref g29, .int (u_14.2 8 0), .int (u_14.2 9 0)]))]) hD hS hA [1] rfl
  refine va_calli (va_runV (As := []) (rest := []) ⟨hx, hb, hml, hown, ht⟩ (k9_thrown l D C s.heap.size H.size mo g2 g3 g4 g5 g6 g7 g8 g9 g10 g11 g12 g13 g14 g15 g16 g17 g18 g19 g22 g24 g28 g29 (u_14.2 0 0) (u_14.2 1 0) (u_14.2 2 0) (u_14.2 3 0) (u_14.2 4 0) (u_14.2 5 0) (u_14.2 6 0) (u_14.2 7 0) (u_14.2 8 0) (u_14.2 9 0)) (cwV 0 ht (xg_V m_562 m_563 m_564 m_391 m_221) rfl rfl rfl (by decide +kernel) ⟨Nat.le_of_ble_eq_true rfl, Nat.le_of_ble_eq_true rfl⟩) ⟨xPc_bl, va_recv hK hPc (ci := 9) (q0 := 0) rfl rfl, xPc_at hPc hK hDc hE hS hAb⟩ rfl rfl hl.1 rfl (lv_room (Nat.le_of_ble_eq_true rfl)) dL_law_950 ⟨(by decide), (by decide)⟩) hS (fun q _ h => hFc q h) hFc (fun r_15 u_16 t H1 locs ht1 hvm hw hB hz1 hk1 hS => ?_)
  obtain ⟨hP1, hD1⟩ := hB
  rw [ht1] at hP1
  try dsimp only at hw
  obtain ⟨hP, hD⟩ := va_join (wr := [(ou, .inl (C 2, 1, .inr (.inl (u_7))))]) (w1 := [(mo, .inr (9, [.int (u_14.2 0 0), .int (u_14.2 1 0), .ref g2, .ref g3, .ref g4, .ref g5, .ref g6, .ref g7, .ref g8, .ref g9, .ref g10, .ref g11, .ref g12, .ref g13, .ref g14, .ref g15, .ref g16, .ref g17, .ref g18, .ref g19, .int (u_14.2 2 0), .int (u_14.2 3 0), .ref g22, .int (u_14.2 4 0), .ref g24, .int (u_14.2 5 0), .int (u_14.2 6 0), .int (u_14.2 7 0), .ref g28, .ref g29, .int (u_14.2 8 0), .int (u_14.2 9 0)]))]) hP hD [1] [0] rfl rfl (by decide) (by decide) hk1 hFc hP1 hD1
  generalize H1 = H at hP hS ⊢
  have hP : va_P D vwCl [(ou, .inl (C 2, 1, .inr (.inl (u_7)))), (mo, .inr (9, [.int (u_14.2 0 0), .int (u_14.2 1 0), .ref g2, .ref g3, .ref g4, .ref g5, .ref g6, .ref g7, .ref g8, .ref g9, .ref g10, .ref g11, .ref g12, .ref g13, .ref g14, .ref g15, .ref g16, .ref g17, .ref g18, .ref g19, .int (u_14.2 2 0), .int (u_14.2 3 0), .ref g22, .int (u_14.2 4 0), .ref g24, .int (u_14.2 5 0), .int (u_14.2 6 0), .int (u_14.2 7 0), .ref g28, .ref g29, .int (u_14.2 8 0), .int (u_14.2 9 0)]))] H := hP
  have hD : va_D A [(ou, .inl (C 2, 1, .inr (.inl (u_7)))), (mo, .inr (9, [.int (u_14.2 0 0), .int (u_14.2 1 0), .ref g2, .ref g3, .ref g4, .ref g5, .ref g6, .ref g7, .ref g8, .ref g9, .ref g10, .ref g11, .ref g12, .ref g13, .ref g14, .ref g15, .ref g16, .ref g17, .ref g18, .ref g19, .int (u_14.2 2 0), .int (u_14.2 3 0), .ref g22, .int (u_14.2 4 0), .ref g24, .int (u_14.2 5 0), .int (u_14.2 6 0), .int (u_14.2 7 0), .ref g28, .ref g29, .int (u_14.2 8 0), .int (u_14.2 9 0)]))] := hD
  have hq_950 := hw
  obtain rfl : r_15 = (1 : Int32) := hw.trans hq_944
  refine lv_iload hx hb dL_law_953 (lv_at hl 1 rfl) ?_
  refine lv_icmp_eq (tgt := 960) hx hb dL_law_955 (by decide) (fun c_955 => ?_) (fun c_955 => ?_)
  rotate_left
  · exact absurd c_955 (by decide)
  refine lv_iload hx hb dL_law_960 (lv_at hl 1 rfl) ?_
  refine lv_if_ne (tgt := 984) hx hb dL_law_962 (by decide) (fun c_962 => ?_) (fun c_962 => ?_)
  rotate_left
  · exact absurd c_962 (by decide)
  refine lv_goto (tgt := 1732) hx hb dL_law_984 (by decide) ?_
  exact lc_end ⟨hl0, hx, hb, hr, hml, hown, ht, hX, hbl, hlocks, hK, hE, hA, hAs, hbA⟩ (by decide) (by decide) hS (lv_sub hl [2, 6] rfl)
set_option maxHeartbeats 4000000 in
set_option maxRecDepth 100000 in
theorem lc_about {p : Program} {l : Launch} {e : Env} {s : State} {m : MethodId} {below : List Frame} {meth : Method} {c : Code} {b : Nat} {xs : Nat → Int32} {D : va_G} {C : Nat → ClassId} {A : Nat → Prop} {h0 s0 de kl tl cu hk ca kx ky tx ty a0 a1 a2 a3 a4 a5 a6 a7 a8 a9 a10 a11 ou mo g2 g3 g4 g5 g6 g7 g8 g9 g10 g11 g12 g13 g14 g15 g16 g17 g18 g19 g22 g24 g28 g29 : Nat} {fo : Nat → Int64} (h : lAt p l s m meth c b 6 xs D C A) {H : Heap} {locs : List Loc} {ls : Array Slot} (hP : va_P D vwCl [(h0, .inr (5, [.ref s0, .ref de, .ref kl, .ref tl, .ref cu, .ref hk, .ref ca, .int 0, .int 0, .int (-1), .int 0, .int 0])), (kl, .inr (2, [.ref kx, .ref ky, .int 0])), (tl, .inr (4, [.ref tx, .ref ty, .int 1])), (s0, .inr (3, [.ref a0, .ref a1, .ref a2, .ref a3, .ref a4, .ref a5, .ref a6, .int 0, .ref a7, .ref a8, .ref a9, .ref a10, .ref a11, .int 0])), (ou, .inl (C 2, 1, .inr (.inl fo))), (mo, .inr (9, [.int 0, .int 0, .ref g2, .ref g3, .ref g4, .ref g5, .ref g6, .ref g7, .ref g8, .ref g9, .ref g10, .ref g11, .ref g12, .ref g13, .ref g14, .ref g15, .ref g16, .ref g17, .ref g18, .ref g19, .int 0, .int 0, .ref g22, .int 0, .ref g24, .int 0, .int 0, .int (-1), .ref g28, .ref g29, .int 0, .int 0]))] H) (hD : va_D A [(h0, .inr (5, [.ref s0, .ref de, .ref kl, .ref tl, .ref cu, .ref hk, .ref ca, .int 0, .int 0, .int (-1), .int 0, .int 0])), (kl, .inr (2, [.ref kx, .ref ky, .int 0])), (tl, .inr (4, [.ref tx, .ref ty, .int 1])), (s0, .inr (3, [.ref a0, .ref a1, .ref a2, .ref a3, .ref a4, .ref a5, .ref a6, .int 0, .ref a7, .ref a8, .ref a9, .ref a10, .ref a11, .int 0])), (ou, .inl (C 2, 1, .inr (.inl fo))), (mo, .inr (9, [.int 0, .int 0, .ref g2, .ref g3, .ref g4, .ref g5, .ref g6, .ref g7, .ref g8, .ref g9, .ref g10, .ref g11, .ref g12, .ref g13, .ref g14, .ref g15, .ref g16, .ref g17, .ref g18, .ref g19, .int 0, .int 0, .ref g22, .int 0, .ref g24, .int 0, .int 0, .int (-1), .ref g28, .ref g29, .int 0, .int 0]))]) (hS : va_S A s.heap H locs) (hl : lv_has ls 7 [(4, .int 0), (3, .ref ou), (2, .ref mo), (1, .ref h0), (0, .ref b)]) : W p l e room_1 s m #[Value.ref b] below meth c H locs 254 111937 (lw_Z below #[Value.ref b] s) (F0 m 987 ls []) := by
  obtain ⟨hl0, hx, hb, hr, hml, hown, ht, hX, hbl, hlocks, hK, hE, hA, hAs, hbA⟩ := h
  have hAb := hAs
  refine lv_aload_n hx hb dL_law_987 rfl (lv_at hl 3 rfl) ?_
  refine lv_aload_n hx hb dL_law_988 rfl (lv_at hl 4 rfl) ?_
  refine lv_iload hx hb dL_law_989 (lv_at hl 0 rfl) ?_
  refine lv_iconst (v := 1) hx hb dL_law_991 (by decide) ?_
  refine lv_iadd hx hb dL_law_992 ?_
  refine lv_topi (fun x_1 ex_1 => ?_)
  obtain rfl : x_1 = (1 : Int32) := ex_1.trans (by decide)
  refine va_sld hx hb hX hbl hbA hS (by unfold vp_in; decide) dL_law_993 ?_
  refine lv_aload_n hx hb dL_law_994 rfl (lv_at hl 4 rfl) ?_
  refine lv_iload hx hb dL_law_995 (lv_at hl 0 rfl) ?_
  refine lv_iconst (v := 2) hx hb dL_law_997 (by decide) ?_
  refine lv_iadd hx hb dL_law_998 ?_
  refine lv_topi (fun x_2 ex_2 => ?_)
  obtain rfl : x_2 = (2 : Int32) := ex_2.trans (by decide)
  refine va_sld hx hb hX hbl hbA hS (by unfold vp_in; decide) dL_law_999 ?_
  refine lv_aload_n hx hb dL_law_1000 rfl (lv_at hl 4 rfl) ?_
  refine lv_iload hx hb dL_law_1001 (lv_at hl 0 rfl) ?_
  refine lv_iconst (v := 3) hx hb dL_law_1003 (by decide) ?_
  refine lv_iadd hx hb dL_law_1004 ?_
  refine lv_topi (fun x_3 ex_3 => ?_)
  obtain rfl : x_3 = (3 : Int32) := ex_3.trans (by decide)
  refine va_sld hx hb hX hbl hbA hS (by unfold vp_in; decide) dL_law_1005 ?_
  refine lv_aload_n hx hb dL_law_1006 rfl (lv_at hl 1 rfl) ?_
  have hPc := hP.sub (ws' := [(h0, .inr (5, [.ref s0, .ref de, .ref kl, .ref tl, .ref cu, .ref hk, .ref ca, .int 0, .int 0, .int (-1), .int 0, .int 0])), (kl, .inr (2, [.ref kx, .ref ky, .int 0])), (tl, .inr (4, [.ref tx, .ref ty, .int 1])), (s0, .inr (3, [.ref a0, .ref a1, .ref a2, .ref a3, .ref a4, .ref a5, .ref a6, .int 0, .ref a7, .ref a8, .ref a9, .ref a10, .ref a11, .int 0])), (ou, .inl (C 2, 1, .inr (.inl fo)))]) [0, 1, 2, 3, 4] rfl
  have hDc := hD.sub (ws' := [(h0, .inr (5, [.ref s0, .ref de, .ref kl, .ref tl, .ref cu, .ref hk, .ref ca, .int 0, .int 0, .int (-1), .int 0, .int 0])), (kl, .inr (2, [.ref kx, .ref ky, .int 0])), (tl, .inr (4, [.ref tx, .ref ty, .int 1])), (s0, .inr (3, [.ref a0, .ref a1, .ref a2, .ref a3, .ref a4, .ref a5, .ref a6, .int 0, .ref a7, .ref a8, .ref a9, .ref a10, .ref a11, .int 0])), (ou, .inl (C 2, 1, .inr (.inl fo)))]) [0, 1, 2, 3, 4] (by decide) rfl
  have hFc := va_free (wc := [(h0, .inr (5, [.ref s0, .ref de, .ref kl, .ref tl, .ref cu, .ref hk, .ref ca, .int 0, .int 0, .int (-1), .int 0, .int 0])), (kl, .inr (2, [.ref kx, .ref ky, .int 0])), (tl, .inr (4, [.ref tx, .ref ty, .int 1])), (s0, .inr (3, [.ref a0, .ref a1, .ref a2, .ref a3, .ref a4, .ref a5, .ref a6, .int 0, .ref a7, .ref a8, .ref a9, .ref a10, .ref a11, .int 0])), (ou, .inl (C 2, 1, .inr (.inl fo)))]) hD hS hA [0, 1, 2, 3, 4] rfl
  refine va_calli (vx_runSW (As := [.ref h0, .int (xs (Int32.toNatClampNeg 1)), .int (xs (Int32.toNatClampNeg 2)), .int (xs (Int32.toNatClampNeg 3)), .ref ou]) (rest := []) ⟨hx, hb, hml, hown, ht⟩ (kL_about l hl0 D C s.heap.size H.size h0 s0 de kl tl cu hk ca kx ky tx ty a0 a1 a2 a3 a4 a5 a6 a7 a8 a9 a10 a11 ((xs (Int32.toNatClampNeg 1))) ((xs (Int32.toNatClampNeg 2))) ((xs (Int32.toNatClampNeg 3))) ou fo) (vx_cwSW 5 ht (xg_T m_610 m_611 m_558 m_479) rfl rfl rfl (by decide +kernel) ⟨Nat.le_of_ble_eq_true rfl, Nat.le_of_ble_eq_true rfl⟩) ⟨xPc_bl, xPc_at hPc hK hDc hE hS hAb⟩ rfl rfl hl.1 rfl (lv_room (Nat.le_of_ble_eq_true rfl)) dL_law_1007 ⟨(by decide), (by decide)⟩) hS (fun q _ h => hFc q h) hFc (fun r_4 u_5 t H1 locs ht1 hvm hw hB hz1 hk1 hS => ?_)
  obtain ⟨hP1, hD1⟩ := hB
  rw [ht1] at hP1
  try dsimp only at hw
  obtain ⟨hP, hD⟩ := va_join (wr := [(mo, .inr (9, [.int 0, .int 0, .ref g2, .ref g3, .ref g4, .ref g5, .ref g6, .ref g7, .ref g8, .ref g9, .ref g10, .ref g11, .ref g12, .ref g13, .ref g14, .ref g15, .ref g16, .ref g17, .ref g18, .ref g19, .int 0, .int 0, .ref g22, .int 0, .ref g24, .int 0, .int 0, .int (-1), .ref g28, .ref g29, .int 0, .int 0]))]) (w1 := [(ou, .inl (C 2, 1, .inr (.inl (u_5))))]) hP hD [0, 1, 2, 3, 4] [5] rfl rfl (by decide) (by decide) hk1 hFc hP1 hD1
  generalize H1 = H at hP hS ⊢
  have hP : va_P D vwCl [(mo, .inr (9, [.int 0, .int 0, .ref g2, .ref g3, .ref g4, .ref g5, .ref g6, .ref g7, .ref g8, .ref g9, .ref g10, .ref g11, .ref g12, .ref g13, .ref g14, .ref g15, .ref g16, .ref g17, .ref g18, .ref g19, .int 0, .int 0, .ref g22, .int 0, .ref g24, .int 0, .int 0, .int (-1), .ref g28, .ref g29, .int 0, .int 0])), (ou, .inl (C 2, 1, .inr (.inl (u_5))))] H := hP
  have hD : va_D A [(mo, .inr (9, [.int 0, .int 0, .ref g2, .ref g3, .ref g4, .ref g5, .ref g6, .ref g7, .ref g8, .ref g9, .ref g10, .ref g11, .ref g12, .ref g13, .ref g14, .ref g15, .ref g16, .ref g17, .ref g18, .ref g19, .int 0, .int 0, .ref g22, .int 0, .ref g24, .int 0, .int 0, .int (-1), .ref g28, .ref g29, .int 0, .int 0])), (ou, .inl (C 2, 1, .inr (.inl (u_5))))] := hD
  have hq_1007 := hw
  obtain rfl : r_4 = (1 : Int32) := hw
  refine W.widen (k := 257) (n := 111955) (by decide) (by decide) ?_
  refine lv_istore (lv' := [(5, .int 1), (4, .int 0), (3, .ref ou), (2, .ref mo), (1, .ref h0), (0, .ref b)]) hx hb dL_law_1010 hl (by decide) rfl (fun ls hl => ?_)
  refine lv_aload_n hx hb dL_law_1012 rfl (lv_at hl 3 rfl) ?_
  refine lv_aload_n hx hb dL_law_1013 rfl (lv_at hl 5 rfl) ?_
  refine lv_iload hx hb dL_law_1014 (lv_at hl 1 rfl) ?_
  refine lv_iconst (v := 1) hx hb dL_law_1016 (by decide) ?_
  refine lv_iadd hx hb dL_law_1017 ?_
  refine lv_topi (fun x_6 ex_6 => ?_)
  obtain rfl : x_6 = (1 : Int32) := ex_6.trans (by decide)
  refine va_sld hx hb hX hbl hbA hS (by unfold vp_in; decide) dL_law_1018 ?_
  refine lv_aload_n hx hb dL_law_1019 rfl (lv_at hl 5 rfl) ?_
  refine lv_iload hx hb dL_law_1020 (lv_at hl 1 rfl) ?_
  refine lv_iconst (v := 2) hx hb dL_law_1022 (by decide) ?_
  refine lv_iadd hx hb dL_law_1023 ?_
  refine lv_topi (fun x_7 ex_7 => ?_)
  obtain rfl : x_7 = (2 : Int32) := ex_7.trans (by decide)
  refine va_sld hx hb hX hbl hbA hS (by unfold vp_in; decide) dL_law_1024 ?_
  refine lv_aload_n hx hb dL_law_1025 rfl (lv_at hl 5 rfl) ?_
  refine lv_iload hx hb dL_law_1026 (lv_at hl 1 rfl) ?_
  refine lv_iconst (v := 3) hx hb dL_law_1028 (by decide) ?_
  refine lv_iadd hx hb dL_law_1029 ?_
  refine lv_topi (fun x_8 ex_8 => ?_)
  obtain rfl : x_8 = (3 : Int32) := ex_8.trans (by decide)
  refine va_sld hx hb hX hbl hbA hS (by unfold vp_in; decide) dL_law_1030 ?_
  have hPc := hP.sub (ws' := [(mo, .inr (9, [.int 0, .int 0, .ref g2, .ref g3, .ref g4, .ref g5, .ref g6, .ref g7, .ref g8, .ref g9, .ref g10, .ref g11, .ref g12, .ref g13, .ref g14, .ref g15, .ref g16, .ref g17, .ref g18, .ref g19, .int 0, .int 0, .ref g22, .int 0, .ref g24, .int 0, .int 0, .int (-1), .ref g28, .ref g29, .int 0, .int 0]))]) [0] rfl
  have hDc := hD.sub (ws' := [(mo, .inr (9, [.int 0, .int 0, .ref g2, .ref g3, .ref g4, .ref g5, .ref g6, .ref g7, .ref g8, .ref g9, .ref g10, .ref g11, .ref g12, .ref g13, .ref g14, .ref g15, .ref g16, .ref g17, .ref g18, .ref g19, .int 0, .int 0, .ref g22, .int 0, .ref g24, .int 0, .int 0, .int (-1), .ref g28, .ref g29, .int 0, .int 0]))]) [0] (by decide) rfl
  have hFc := va_free (wc := [(mo, .inr (9, [.int 0, .int 0, .ref g2, .ref g3, .ref g4, .ref g5, .ref g6, .ref g7, .ref g8, .ref g9, .ref g10, .ref g11, .ref g12, .ref g13, .ref g14, .ref g15, .ref g16, .ref g17, .ref g18, .ref g19, .int 0, .int 0, .ref g22, .int 0, .ref g24, .int 0, .int 0, .int (-1), .ref g28, .ref g29, .int 0, .int 0]))]) hD hS hA [0] rfl
  refine va_calli (vx_runVW (As := [.int (xs (Int32.toNatClampNeg 1)), .int (xs (Int32.toNatClampNeg 2)), .int (xs (Int32.toNatClampNeg 3))]) (rest := []) ⟨hx, hb, hml, hown, ht⟩ (k9p_about l D C s.heap.size H.size mo g2 g3 g4 g5 g6 g7 g8 g9 g10 g11 g12 g13 g14 g15 g16 g17 g18 g19 g22 g24 g28 g29 ((xs (Int32.toNatClampNeg 1))) ((xs (Int32.toNatClampNeg 2))) ((xs (Int32.toNatClampNeg 3)))) (vx_cwVW 3 ht (xg_V m_612 m_613 m_614 m_391 m_235) rfl rfl rfl (by decide +kernel) ⟨Nat.le_of_ble_eq_true rfl, Nat.le_of_ble_eq_true rfl⟩) ⟨xPc_bl, va_recv hK hPc (ci := 9) (q0 := 0) rfl rfl, xPc_at hPc hK hDc hE hS hAb⟩ rfl rfl hl.1 rfl (lv_room (Nat.le_of_ble_eq_true rfl)) dL_law_1031 ⟨(by decide), (by decide)⟩) hS (fun q _ h => hFc q h) hFc (fun r_9 u_10 t H1 locs ht1 hvm hw hB hz1 hk1 hS => ?_)
  obtain ⟨hP1, hD1⟩ := hB
  rw [ht1] at hP1
  try dsimp only at hw
  obtain ⟨hP, hD⟩ := va_join (wr := [(ou, .inl (C 2, 1, .inr (.inl (u_5))))]) (w1 := [(mo, .inr (9, [.int (u_10.2 0 0), .int (u_10.2 1 0), .ref g2, .ref g3, .ref g4, .ref g5, .ref g6, .ref g7, .ref g8, .ref g9, .ref g10, .ref g11, .ref g12, .ref g13, .ref g14, .ref g15, .ref g16, .ref g17, .ref g18, .ref g19, .int (u_10.2 2 0), .int (u_10.2 3 0), .ref g22, .int (u_10.2 4 0), .ref g24, .int (u_10.2 5 0), .int (u_10.2 6 0), .int (u_10.2 7 0), .ref g28, .ref g29, .int (u_10.2 8 0), .int (u_10.2 9 0)]))]) hP hD [0] [1] rfl rfl (by decide) (by decide) hk1 hFc hP1 hD1
  generalize H1 = H at hP hS ⊢
  have hP : va_P D vwCl [(ou, .inl (C 2, 1, .inr (.inl (u_5)))), (mo, .inr (9, [.int (u_10.2 0 0), .int (u_10.2 1 0), .ref g2, .ref g3, .ref g4, .ref g5, .ref g6, .ref g7, .ref g8, .ref g9, .ref g10, .ref g11, .ref g12, .ref g13, .ref g14, .ref g15, .ref g16, .ref g17, .ref g18, .ref g19, .int (u_10.2 2 0), .int (u_10.2 3 0), .ref g22, .int (u_10.2 4 0), .ref g24, .int (u_10.2 5 0), .int (u_10.2 6 0), .int (u_10.2 7 0), .ref g28, .ref g29, .int (u_10.2 8 0), .int (u_10.2 9 0)]))] H := hP
  have hD : va_D A [(ou, .inl (C 2, 1, .inr (.inl (u_5)))), (mo, .inr (9, [.int (u_10.2 0 0), .int (u_10.2 1 0), .ref g2, .ref g3, .ref g4, .ref g5, .ref g6, .ref g7, .ref g8, .ref g9, .ref g10, .ref g11, .ref g12, .ref g13, .ref g14, .ref g15, .ref g16, .ref g17, .ref g18, .ref g19, .int (u_10.2 2 0), .int (u_10.2 3 0), .ref g22, .int (u_10.2 4 0), .ref g24, .int (u_10.2 5 0), .int (u_10.2 6 0), .int (u_10.2 7 0), .ref g28, .ref g29, .int (u_10.2 8 0), .int (u_10.2 9 0)]))] := hD
  have hq_1031 := hw
  refine W.widen (k := 258) (n := 111962) (by decide) (by decide) ?_
  refine lv_istore (lv' := [(6, .int r_9), (5, .int 1), (4, .int 0), (3, .ref ou), (2, .ref mo), (1, .ref h0), (0, .ref b)]) hx hb dL_law_1034 hl (by decide) rfl (fun ls hl => ?_)
  refine lv_aload_n hx hb dL_law_1036 rfl (lv_at hl 4 rfl) ?_
  have hPc := hP.sub (ws' := [(mo, .inr (9, [.int (u_10.2 0 0), .int (u_10.2 1 0), .ref g2, .ref g3, .ref g4, .ref g5, .ref g6, .ref g7, .ref g8, .ref g9, .ref g10, .ref g11, .ref g12, .ref g13, .ref g14, .ref g15, .ref g16, .ref g17, .ref g18, .ref g19, .int (u_10.2 2 0), .int (u_10.2 3 0), .ref g22, .int (u_10.2 4 0), .ref g24, .int (u_10.2 5 0), .int (u_10.2 6 0), .int (u_10.2 7 0), .ref g28, .ref g29, .int (u_10.2 8 0), .int (u_10.2 9 0)]))]) [1] rfl
  have hDc := hD.sub (ws' := [(mo, .inr (9, [.int (u_10.2 0 0), .int (u_10.2 1 0), .ref g2, .ref g3, .ref g4, .ref g5, .ref g6, .ref g7, .ref g8, .ref g9, .ref g10, .ref g11, .ref g12, .ref g13, .ref g14, .ref g15, .ref g16, .ref g17, .ref g18, .ref g19, .int (u_10.2 2 0), .int (u_10.2 3 0), .ref g22, .int (u_10.2 4 0), .ref g24, .int (u_10.2 5 0), .int (u_10.2 6 0), .int (u_10.2 7 0), .ref g28, .ref g29, .int (u_10.2 8 0), .int (u_10.2 9 0)]))]) [1] (by decide) rfl
  have hFc := va_free (wc := [(mo, .inr (9, [.int (u_10.2 0 0), .int (u_10.2 1 0), .ref g2, .ref g3, .ref g4, .ref g5, .ref g6, .ref g7, .ref g8, .ref g9, .ref g10, .ref g11, .ref g12, .ref g13, .ref g14, .ref g15, .ref g16, .ref g17, .ref g18, .ref g19, .int (u_10.2 2 0), .int (u_10.2 3 0), .ref g22, .int (u_10.2 4 0), .ref g24, .int (u_10.2 5 0), .int (u_10.2 6 0), .int (u_10.2 7 0), .ref g28, .ref g29, .int (u_10.2 8 0), .int (u_10.2 9 0)]))]) hD hS hA [1] rfl
  refine va_calli (va_runV (As := []) (rest := []) ⟨hx, hb, hml, hown, ht⟩ (k9_thrown l D C s.heap.size H.size mo g2 g3 g4 g5 g6 g7 g8 g9 g10 g11 g12 g13 g14 g15 g16 g17 g18 g19 g22 g24 g28 g29 (u_10.2 0 0) (u_10.2 1 0) (u_10.2 2 0) (u_10.2 3 0) (u_10.2 4 0) (u_10.2 5 0) (u_10.2 6 0) (u_10.2 7 0) (u_10.2 8 0) (u_10.2 9 0)) (cwV 0 ht (xg_V m_562 m_563 m_564 m_391 m_221) rfl rfl rfl (by decide +kernel) ⟨Nat.le_of_ble_eq_true rfl, Nat.le_of_ble_eq_true rfl⟩) ⟨xPc_bl, va_recv hK hPc (ci := 9) (q0 := 0) rfl rfl, xPc_at hPc hK hDc hE hS hAb⟩ rfl rfl hl.1 rfl (lv_room (Nat.le_of_ble_eq_true rfl)) dL_law_1037 ⟨(by decide), (by decide)⟩) hS (fun q _ h => hFc q h) hFc (fun r_11 u_12 t H1 locs ht1 hvm hw hB hz1 hk1 hS => ?_)
  obtain ⟨hP1, hD1⟩ := hB
  rw [ht1] at hP1
  try dsimp only at hw
  obtain ⟨hP, hD⟩ := va_join (wr := [(ou, .inl (C 2, 1, .inr (.inl (u_5))))]) (w1 := [(mo, .inr (9, [.int (u_10.2 0 0), .int (u_10.2 1 0), .ref g2, .ref g3, .ref g4, .ref g5, .ref g6, .ref g7, .ref g8, .ref g9, .ref g10, .ref g11, .ref g12, .ref g13, .ref g14, .ref g15, .ref g16, .ref g17, .ref g18, .ref g19, .int (u_10.2 2 0), .int (u_10.2 3 0), .ref g22, .int (u_10.2 4 0), .ref g24, .int (u_10.2 5 0), .int (u_10.2 6 0), .int (u_10.2 7 0), .ref g28, .ref g29, .int (u_10.2 8 0), .int (u_10.2 9 0)]))]) hP hD [1] [0] rfl rfl (by decide) (by decide) hk1 hFc hP1 hD1
  generalize H1 = H at hP hS ⊢
  have hP : va_P D vwCl [(ou, .inl (C 2, 1, .inr (.inl (u_5)))), (mo, .inr (9, [.int (u_10.2 0 0), .int (u_10.2 1 0), .ref g2, .ref g3, .ref g4, .ref g5, .ref g6, .ref g7, .ref g8, .ref g9, .ref g10, .ref g11, .ref g12, .ref g13, .ref g14, .ref g15, .ref g16, .ref g17, .ref g18, .ref g19, .int (u_10.2 2 0), .int (u_10.2 3 0), .ref g22, .int (u_10.2 4 0), .ref g24, .int (u_10.2 5 0), .int (u_10.2 6 0), .int (u_10.2 7 0), .ref g28, .ref g29, .int (u_10.2 8 0), .int (u_10.2 9 0)]))] H := hP
  have hD : va_D A [(ou, .inl (C 2, 1, .inr (.inl (u_5)))), (mo, .inr (9, [.int (u_10.2 0 0), .int (u_10.2 1 0), .ref g2, .ref g3, .ref g4, .ref g5, .ref g6, .ref g7, .ref g8, .ref g9, .ref g10, .ref g11, .ref g12, .ref g13, .ref g14, .ref g15, .ref g16, .ref g17, .ref g18, .ref g19, .int (u_10.2 2 0), .int (u_10.2 3 0), .ref g22, .int (u_10.2 4 0), .ref g24, .int (u_10.2 5 0), .int (u_10.2 6 0), .int (u_10.2 7 0), .ref g28, .ref g29, .int (u_10.2 8 0), .int (u_10.2 9 0)]))] := hD
  have hq_1037 := hw
  obtain rfl : r_11 = (1 : Int32) := hw.trans hq_1031
  refine lv_iload hx hb dL_law_1040 (lv_at hl 1 rfl) ?_
  refine lv_icmp_eq (tgt := 1047) hx hb dL_law_1042 (by decide) (fun c_1042 => ?_) (fun c_1042 => ?_)
  rotate_left
  · exact absurd c_1042 (by decide)
  refine lv_iload hx hb dL_law_1047 (lv_at hl 1 rfl) ?_
  refine lv_if_ne (tgt := 1064) hx hb dL_law_1049 (by decide) (fun c_1049 => ?_) (fun c_1049 => ?_)
  rotate_left
  · exact absurd c_1049 (by decide)
  refine lv_goto (tgt := 1732) hx hb dL_law_1064 (by decide) ?_
  exact lc_end ⟨hl0, hx, hb, hr, hml, hown, ht, hX, hbl, hlocks, hK, hE, hA, hAs, hbA⟩ (by decide) (by decide) hS (lv_sub hl [2, 6] rfl)
set_option maxHeartbeats 4000000 in
set_option maxRecDepth 100000 in
theorem lc_keys {p : Program} {l : Launch} {e : Env} {s : State} {m : MethodId} {below : List Frame} {meth : Method} {c : Code} {b : Nat} {xs : Nat → Int32} {D : va_G} {C : Nat → ClassId} {A : Nat → Prop} {h0 s0 de kl tl cu hk ca kx ky tx ty a0 a1 a2 a3 a4 a5 a6 a7 a8 a9 a10 a11 ou mo g2 g3 g4 g5 g6 g7 g8 g9 g10 g11 g12 g13 g14 g15 g16 g17 g18 g19 g22 g24 g28 g29 : Nat} {fo : Nat → Int64} (h : lAt p l s m meth c b 6 xs D C A) {H : Heap} {locs : List Loc} {ls : Array Slot} (hP : va_P D vwCl [(h0, .inr (5, [.ref s0, .ref de, .ref kl, .ref tl, .ref cu, .ref hk, .ref ca, .int 0, .int 0, .int (-1), .int 0, .int 0])), (kl, .inr (2, [.ref kx, .ref ky, .int 0])), (tl, .inr (4, [.ref tx, .ref ty, .int 1])), (s0, .inr (3, [.ref a0, .ref a1, .ref a2, .ref a3, .ref a4, .ref a5, .ref a6, .int 0, .ref a7, .ref a8, .ref a9, .ref a10, .ref a11, .int 0])), (ou, .inl (C 2, 1, .inr (.inl fo))), (mo, .inr (9, [.int 0, .int 0, .ref g2, .ref g3, .ref g4, .ref g5, .ref g6, .ref g7, .ref g8, .ref g9, .ref g10, .ref g11, .ref g12, .ref g13, .ref g14, .ref g15, .ref g16, .ref g17, .ref g18, .ref g19, .int 0, .int 0, .ref g22, .int 0, .ref g24, .int 0, .int 0, .int (-1), .ref g28, .ref g29, .int 0, .int 0]))] H) (hD : va_D A [(h0, .inr (5, [.ref s0, .ref de, .ref kl, .ref tl, .ref cu, .ref hk, .ref ca, .int 0, .int 0, .int (-1), .int 0, .int 0])), (kl, .inr (2, [.ref kx, .ref ky, .int 0])), (tl, .inr (4, [.ref tx, .ref ty, .int 1])), (s0, .inr (3, [.ref a0, .ref a1, .ref a2, .ref a3, .ref a4, .ref a5, .ref a6, .int 0, .ref a7, .ref a8, .ref a9, .ref a10, .ref a11, .int 0])), (ou, .inl (C 2, 1, .inr (.inl fo))), (mo, .inr (9, [.int 0, .int 0, .ref g2, .ref g3, .ref g4, .ref g5, .ref g6, .ref g7, .ref g8, .ref g9, .ref g10, .ref g11, .ref g12, .ref g13, .ref g14, .ref g15, .ref g16, .ref g17, .ref g18, .ref g19, .int 0, .int 0, .ref g22, .int 0, .ref g24, .int 0, .int 0, .int (-1), .ref g28, .ref g29, .int 0, .int 0]))]) (hS : va_S A s.heap H locs) (hl : lv_has ls 7 [(4, .int 0), (3, .ref ou), (2, .ref mo), (1, .ref h0), (0, .ref b)]) : W p l e room_1 s m #[Value.ref b] below meth c H locs 254 111937 (lw_Z below #[Value.ref b] s) (F0 m 1067 ls []) := by
  obtain ⟨hl0, hx, hb, hr, hml, hown, ht, hX, hbl, hlocks, hK, hE, hA, hAs, hbA⟩ := h
  have hAb := hAs
  refine lv_aload_n hx hb dL_law_1067 rfl (lv_at hl 3 rfl) ?_
  refine lv_aload_n hx hb dL_law_1068 rfl (lv_at hl 4 rfl) ?_
  refine lv_iload hx hb dL_law_1069 (lv_at hl 0 rfl) ?_
  refine lv_iconst (v := 1) hx hb dL_law_1071 (by decide) ?_
  refine lv_iadd hx hb dL_law_1072 ?_
  refine lv_topi (fun x_1 ex_1 => ?_)
  obtain rfl : x_1 = (1 : Int32) := ex_1.trans (by decide)
  refine va_sld hx hb hX hbl hbA hS (by unfold vp_in; decide) dL_law_1073 ?_
  refine lv_aload_n hx hb dL_law_1074 rfl (lv_at hl 4 rfl) ?_
  refine lv_iload hx hb dL_law_1075 (lv_at hl 0 rfl) ?_
  refine lv_iconst (v := 2) hx hb dL_law_1077 (by decide) ?_
  refine lv_iadd hx hb dL_law_1078 ?_
  refine lv_topi (fun x_2 ex_2 => ?_)
  obtain rfl : x_2 = (2 : Int32) := ex_2.trans (by decide)
  refine va_sld hx hb hX hbl hbA hS (by unfold vp_in; decide) dL_law_1079 ?_
  refine lv_if_eq (tgt := 1087) hx hb dL_law_1080 (by decide) (fun c_1080 => ?_) (fun c_1080 => ?_)
  · skip
    refine lv_iconst (v := 0) hx hb dL_law_1087 (by decide) ?_
    refine lv_aload_n hx hb dL_law_1088 rfl (lv_at hl 1 rfl) ?_
    have hPc := hP.sub (ws' := [(h0, .inr (5, [.ref s0, .ref de, .ref kl, .ref tl, .ref cu, .ref hk, .ref ca, .int 0, .int 0, .int (-1), .int 0, .int 0])), (kl, .inr (2, [.ref kx, .ref ky, .int 0])), (tl, .inr (4, [.ref tx, .ref ty, .int 1])), (s0, .inr (3, [.ref a0, .ref a1, .ref a2, .ref a3, .ref a4, .ref a5, .ref a6, .int 0, .ref a7, .ref a8, .ref a9, .ref a10, .ref a11, .int 0])), (ou, .inl (C 2, 1, .inr (.inl fo)))]) [0, 1, 2, 3, 4] rfl
    have hDc := hD.sub (ws' := [(h0, .inr (5, [.ref s0, .ref de, .ref kl, .ref tl, .ref cu, .ref hk, .ref ca, .int 0, .int 0, .int (-1), .int 0, .int 0])), (kl, .inr (2, [.ref kx, .ref ky, .int 0])), (tl, .inr (4, [.ref tx, .ref ty, .int 1])), (s0, .inr (3, [.ref a0, .ref a1, .ref a2, .ref a3, .ref a4, .ref a5, .ref a6, .int 0, .ref a7, .ref a8, .ref a9, .ref a10, .ref a11, .int 0])), (ou, .inl (C 2, 1, .inr (.inl fo)))]) [0, 1, 2, 3, 4] (by decide) rfl
    have hFc := va_free (wc := [(h0, .inr (5, [.ref s0, .ref de, .ref kl, .ref tl, .ref cu, .ref hk, .ref ca, .int 0, .int 0, .int (-1), .int 0, .int 0])), (kl, .inr (2, [.ref kx, .ref ky, .int 0])), (tl, .inr (4, [.ref tx, .ref ty, .int 1])), (s0, .inr (3, [.ref a0, .ref a1, .ref a2, .ref a3, .ref a4, .ref a5, .ref a6, .int 0, .ref a7, .ref a8, .ref a9, .ref a10, .ref a11, .int 0])), (ou, .inl (C 2, 1, .inr (.inl fo)))]) hD hS hA [0, 1, 2, 3, 4] rfl
    refine va_calli (vx_runSW (As := [.ref h0, .int (xs (Int32.toNatClampNeg 1)), .int 0, .ref ou]) (rest := []) ⟨hx, hb, hml, hown, ht⟩ (kL_keys l hl0 D C s.heap.size H.size h0 s0 de kl tl cu hk ca kx ky tx ty a0 a1 a2 a3 a4 a5 a6 a7 a8 a9 a10 a11 ((xs (Int32.toNatClampNeg 1))) 0 ou fo) (vx_cwSW 4 ht (xg_T m_615 m_616 m_558 m_480) rfl rfl rfl (by decide +kernel) ⟨Nat.le_of_ble_eq_true rfl, Nat.le_of_ble_eq_true rfl⟩) ⟨xPc_bl, xPc_at hPc hK hDc hE hS hAb⟩ rfl rfl hl.1 rfl (lv_room (Nat.le_of_ble_eq_true rfl)) dL_law_1089 ⟨(by decide), (by decide)⟩) hS (fun q _ h => hFc q h) hFc (fun r_3 u_4 t H1 locs ht1 hvm hw hB hz1 hk1 hS => ?_)
    obtain ⟨hP1, hD1⟩ := hB
    rw [ht1] at hP1
    try dsimp only at hw
    obtain ⟨hP, hD⟩ := va_join (wr := [(mo, .inr (9, [.int 0, .int 0, .ref g2, .ref g3, .ref g4, .ref g5, .ref g6, .ref g7, .ref g8, .ref g9, .ref g10, .ref g11, .ref g12, .ref g13, .ref g14, .ref g15, .ref g16, .ref g17, .ref g18, .ref g19, .int 0, .int 0, .ref g22, .int 0, .ref g24, .int 0, .int 0, .int (-1), .ref g28, .ref g29, .int 0, .int 0]))]) (w1 := [(ou, .inl (C 2, 1, .inr (.inl (u_4))))]) hP hD [0, 1, 2, 3, 4] [5] rfl rfl (by decide) (by decide) hk1 hFc hP1 hD1
    generalize H1 = H at hP hS ⊢
    have hP : va_P D vwCl [(mo, .inr (9, [.int 0, .int 0, .ref g2, .ref g3, .ref g4, .ref g5, .ref g6, .ref g7, .ref g8, .ref g9, .ref g10, .ref g11, .ref g12, .ref g13, .ref g14, .ref g15, .ref g16, .ref g17, .ref g18, .ref g19, .int 0, .int 0, .ref g22, .int 0, .ref g24, .int 0, .int 0, .int (-1), .ref g28, .ref g29, .int 0, .int 0])), (ou, .inl (C 2, 1, .inr (.inl (u_4))))] H := hP
    have hD : va_D A [(mo, .inr (9, [.int 0, .int 0, .ref g2, .ref g3, .ref g4, .ref g5, .ref g6, .ref g7, .ref g8, .ref g9, .ref g10, .ref g11, .ref g12, .ref g13, .ref g14, .ref g15, .ref g16, .ref g17, .ref g18, .ref g19, .int 0, .int 0, .ref g22, .int 0, .ref g24, .int 0, .int 0, .int (-1), .ref g28, .ref g29, .int 0, .int 0])), (ou, .inl (C 2, 1, .inr (.inl (u_4))))] := hD
    have hq_1089 := hw
    obtain rfl : r_3 = (1 : Int32) := hw
    refine W.widen (k := 257) (n := 111955) (by decide) (by decide) ?_
    refine lv_istore (lv' := [(5, .int 1), (4, .int 0), (3, .ref ou), (2, .ref mo), (1, .ref h0), (0, .ref b)]) hx hb dL_law_1092 hl (by decide) rfl (fun ls hl => ?_)
    refine lv_aload_n hx hb dL_law_1094 rfl (lv_at hl 3 rfl) ?_
    refine lv_aload_n hx hb dL_law_1095 rfl (lv_at hl 5 rfl) ?_
    refine lv_iload hx hb dL_law_1096 (lv_at hl 1 rfl) ?_
    refine lv_iconst (v := 1) hx hb dL_law_1098 (by decide) ?_
    refine lv_iadd hx hb dL_law_1099 ?_
    refine lv_topi (fun x_5 ex_5 => ?_)
    obtain rfl : x_5 = (1 : Int32) := ex_5.trans (by decide)
    refine va_sld hx hb hX hbl hbA hS (by unfold vp_in; decide) dL_law_1100 ?_
    refine lv_aload_n hx hb dL_law_1101 rfl (lv_at hl 5 rfl) ?_
    refine lv_iload hx hb dL_law_1102 (lv_at hl 1 rfl) ?_
    refine lv_iconst (v := 2) hx hb dL_law_1104 (by decide) ?_
    refine lv_iadd hx hb dL_law_1105 ?_
    refine lv_topi (fun x_6 ex_6 => ?_)
    obtain rfl : x_6 = (2 : Int32) := ex_6.trans (by decide)
    refine va_sld hx hb hX hbl hbA hS (by unfold vp_in; decide) dL_law_1106 ?_
    refine lv_if_eq (tgt := 1114) hx hb dL_law_1107 (by decide) (fun c_1107 => ?_) (fun c_1107 => ?_)
    · skip
      refine lv_iconst (v := 0) hx hb dL_law_1114 (by decide) ?_
      have hPc := hP.sub (ws' := [(mo, .inr (9, [.int 0, .int 0, .ref g2, .ref g3, .ref g4, .ref g5, .ref g6, .ref g7, .ref g8, .ref g9, .ref g10, .ref g11, .ref g12, .ref g13, .ref g14, .ref g15, .ref g16, .ref g17, .ref g18, .ref g19, .int 0, .int 0, .ref g22, .int 0, .ref g24, .int 0, .int 0, .int (-1), .ref g28, .ref g29, .int 0, .int 0]))]) [0] rfl
      have hDc := hD.sub (ws' := [(mo, .inr (9, [.int 0, .int 0, .ref g2, .ref g3, .ref g4, .ref g5, .ref g6, .ref g7, .ref g8, .ref g9, .ref g10, .ref g11, .ref g12, .ref g13, .ref g14, .ref g15, .ref g16, .ref g17, .ref g18, .ref g19, .int 0, .int 0, .ref g22, .int 0, .ref g24, .int 0, .int 0, .int (-1), .ref g28, .ref g29, .int 0, .int 0]))]) [0] (by decide) rfl
      have hFc := va_free (wc := [(mo, .inr (9, [.int 0, .int 0, .ref g2, .ref g3, .ref g4, .ref g5, .ref g6, .ref g7, .ref g8, .ref g9, .ref g10, .ref g11, .ref g12, .ref g13, .ref g14, .ref g15, .ref g16, .ref g17, .ref g18, .ref g19, .int 0, .int 0, .ref g22, .int 0, .ref g24, .int 0, .int 0, .int (-1), .ref g28, .ref g29, .int 0, .int 0]))]) hD hS hA [0] rfl
      refine va_calli (vx_runVW (As := [.int (xs (Int32.toNatClampNeg 1)), .int 0]) (rest := []) ⟨hx, hb, hml, hown, ht⟩ (k9p_keys l D C s.heap.size H.size mo g2 g3 g4 g5 g6 g7 g8 g9 g10 g11 g12 g13 g14 g15 g16 g17 g18 g19 g22 g24 g28 g29 ((xs (Int32.toNatClampNeg 1))) 0) (vx_cwVW 2 ht (xg_V m_617 m_618 m_619 m_391 m_236) rfl rfl rfl (by decide +kernel) ⟨Nat.le_of_ble_eq_true rfl, Nat.le_of_ble_eq_true rfl⟩) ⟨xPc_bl, va_recv hK hPc (ci := 9) (q0 := 0) rfl rfl, xPc_at hPc hK hDc hE hS hAb⟩ rfl rfl hl.1 rfl (lv_room (Nat.le_of_ble_eq_true rfl)) dL_law_1115 ⟨(by decide), (by decide)⟩) hS (fun q _ h => hFc q h) hFc (fun r_7 u_8 t H1 locs ht1 hvm hw hB hz1 hk1 hS => ?_)
      obtain ⟨hP1, hD1⟩ := hB
      rw [ht1] at hP1
      try dsimp only at hw
      obtain ⟨hP, hD⟩ := va_join (wr := [(ou, .inl (C 2, 1, .inr (.inl (u_4))))]) (w1 := [(mo, .inr (9, [.int (u_8.2 0 0), .int (u_8.2 1 0), .ref g2, .ref g3, .ref g4, .ref g5, .ref g6, .ref g7, .ref g8, .ref g9, .ref g10, .ref g11, .ref g12, .ref g13, .ref g14, .ref g15, .ref g16, .ref g17, .ref g18, .ref g19, .int (u_8.2 2 0), .int (u_8.2 3 0), .ref g22, .int (u_8.2 4 0), .ref g24, .int (u_8.2 5 0), .int (u_8.2 6 0), .int (u_8.2 7 0), .ref g28, .ref g29, .int (u_8.2 8 0), .int (u_8.2 9 0)]))]) hP hD [0] [1] rfl rfl (by decide) (by decide) hk1 hFc hP1 hD1
      generalize H1 = H at hP hS ⊢
      have hP : va_P D vwCl [(ou, .inl (C 2, 1, .inr (.inl (u_4)))), (mo, .inr (9, [.int (u_8.2 0 0), .int (u_8.2 1 0), .ref g2, .ref g3, .ref g4, .ref g5, .ref g6, .ref g7, .ref g8, .ref g9, .ref g10, .ref g11, .ref g12, .ref g13, .ref g14, .ref g15, .ref g16, .ref g17, .ref g18, .ref g19, .int (u_8.2 2 0), .int (u_8.2 3 0), .ref g22, .int (u_8.2 4 0), .ref g24, .int (u_8.2 5 0), .int (u_8.2 6 0), .int (u_8.2 7 0), .ref g28, .ref g29, .int (u_8.2 8 0), .int (u_8.2 9 0)]))] H := hP
      have hD : va_D A [(ou, .inl (C 2, 1, .inr (.inl (u_4)))), (mo, .inr (9, [.int (u_8.2 0 0), .int (u_8.2 1 0), .ref g2, .ref g3, .ref g4, .ref g5, .ref g6, .ref g7, .ref g8, .ref g9, .ref g10, .ref g11, .ref g12, .ref g13, .ref g14, .ref g15, .ref g16, .ref g17, .ref g18, .ref g19, .int (u_8.2 2 0), .int (u_8.2 3 0), .ref g22, .int (u_8.2 4 0), .ref g24, .int (u_8.2 5 0), .int (u_8.2 6 0), .int (u_8.2 7 0), .ref g28, .ref g29, .int (u_8.2 8 0), .int (u_8.2 9 0)]))] := hD
      have hq_1115 := hw
      refine W.widen (k := 258) (n := 111962) (by decide) (by decide) ?_
      refine lv_istore (lv' := [(6, .int r_7), (5, .int 1), (4, .int 0), (3, .ref ou), (2, .ref mo), (1, .ref h0), (0, .ref b)]) hx hb dL_law_1118 hl (by decide) rfl (fun ls hl => ?_)
      refine lv_aload_n hx hb dL_law_1120 rfl (lv_at hl 4 rfl) ?_
      have hPc := hP.sub (ws' := [(mo, .inr (9, [.int (u_8.2 0 0), .int (u_8.2 1 0), .ref g2, .ref g3, .ref g4, .ref g5, .ref g6, .ref g7, .ref g8, .ref g9, .ref g10, .ref g11, .ref g12, .ref g13, .ref g14, .ref g15, .ref g16, .ref g17, .ref g18, .ref g19, .int (u_8.2 2 0), .int (u_8.2 3 0), .ref g22, .int (u_8.2 4 0), .ref g24, .int (u_8.2 5 0), .int (u_8.2 6 0), .int (u_8.2 7 0), .ref g28, .ref g29, .int (u_8.2 8 0), .int (u_8.2 9 0)]))]) [1] rfl
      have hDc := hD.sub (ws' := [(mo, .inr (9, [.int (u_8.2 0 0), .int (u_8.2 1 0), .ref g2, .ref g3, .ref g4, .ref g5, .ref g6, .ref g7, .ref g8, .ref g9, .ref g10, .ref g11, .ref g12, .ref g13, .ref g14, .ref g15, .ref g16, .ref g17, .ref g18, .ref g19, .int (u_8.2 2 0), .int (u_8.2 3 0), .ref g22, .int (u_8.2 4 0), .ref g24, .int (u_8.2 5 0), .int (u_8.2 6 0), .int (u_8.2 7 0), .ref g28, .ref g29, .int (u_8.2 8 0), .int (u_8.2 9 0)]))]) [1] (by decide) rfl
      have hFc := va_free (wc := [(mo, .inr (9, [.int (u_8.2 0 0), .int (u_8.2 1 0), .ref g2, .ref g3, .ref g4, .ref g5, .ref g6, .ref g7, .ref g8, .ref g9, .ref g10, .ref g11, .ref g12, .ref g13, .ref g14, .ref g15, .ref g16, .ref g17, .ref g18, .ref g19, .int (u_8.2 2 0), .int (u_8.2 3 0), .ref g22, .int (u_8.2 4 0), .ref g24, .int (u_8.2 5 0), .int (u_8.2 6 0), .int (u_8.2 7 0), .ref g28, .ref g29, .int (u_8.2 8 0), .int (u_8.2 9 0)]))]) hD hS hA [1] rfl
      refine va_calli (va_runV (As := []) (rest := []) ⟨hx, hb, hml, hown, ht⟩ (k9_thrown l D C s.heap.size H.size mo g2 g3 g4 g5 g6 g7 g8 g9 g10 g11 g12 g13 g14 g15 g16 g17 g18 g19 g22 g24 g28 g29 (u_8.2 0 0) (u_8.2 1 0) (u_8.2 2 0) (u_8.2 3 0) (u_8.2 4 0) (u_8.2 5 0) (u_8.2 6 0) (u_8.2 7 0) (u_8.2 8 0) (u_8.2 9 0)) (cwV 0 ht (xg_V m_562 m_563 m_564 m_391 m_221) rfl rfl rfl (by decide +kernel) ⟨Nat.le_of_ble_eq_true rfl, Nat.le_of_ble_eq_true rfl⟩) ⟨xPc_bl, va_recv hK hPc (ci := 9) (q0 := 0) rfl rfl, xPc_at hPc hK hDc hE hS hAb⟩ rfl rfl hl.1 rfl (lv_room (Nat.le_of_ble_eq_true rfl)) dL_law_1121 ⟨(by decide), (by decide)⟩) hS (fun q _ h => hFc q h) hFc (fun r_9 u_10 t H1 locs ht1 hvm hw hB hz1 hk1 hS => ?_)
      obtain ⟨hP1, hD1⟩ := hB
      rw [ht1] at hP1
      try dsimp only at hw
      obtain ⟨hP, hD⟩ := va_join (wr := [(ou, .inl (C 2, 1, .inr (.inl (u_4))))]) (w1 := [(mo, .inr (9, [.int (u_8.2 0 0), .int (u_8.2 1 0), .ref g2, .ref g3, .ref g4, .ref g5, .ref g6, .ref g7, .ref g8, .ref g9, .ref g10, .ref g11, .ref g12, .ref g13, .ref g14, .ref g15, .ref g16, .ref g17, .ref g18, .ref g19, .int (u_8.2 2 0), .int (u_8.2 3 0), .ref g22, .int (u_8.2 4 0), .ref g24, .int (u_8.2 5 0), .int (u_8.2 6 0), .int (u_8.2 7 0), .ref g28, .ref g29, .int (u_8.2 8 0), .int (u_8.2 9 0)]))]) hP hD [1] [0] rfl rfl (by decide) (by decide) hk1 hFc hP1 hD1
      generalize H1 = H at hP hS ⊢
      have hP : va_P D vwCl [(ou, .inl (C 2, 1, .inr (.inl (u_4)))), (mo, .inr (9, [.int (u_8.2 0 0), .int (u_8.2 1 0), .ref g2, .ref g3, .ref g4, .ref g5, .ref g6, .ref g7, .ref g8, .ref g9, .ref g10, .ref g11, .ref g12, .ref g13, .ref g14, .ref g15, .ref g16, .ref g17, .ref g18, .ref g19, .int (u_8.2 2 0), .int (u_8.2 3 0), .ref g22, .int (u_8.2 4 0), .ref g24, .int (u_8.2 5 0), .int (u_8.2 6 0), .int (u_8.2 7 0), .ref g28, .ref g29, .int (u_8.2 8 0), .int (u_8.2 9 0)]))] H := hP
      have hD : va_D A [(ou, .inl (C 2, 1, .inr (.inl (u_4)))), (mo, .inr (9, [.int (u_8.2 0 0), .int (u_8.2 1 0), .ref g2, .ref g3, .ref g4, .ref g5, .ref g6, .ref g7, .ref g8, .ref g9, .ref g10, .ref g11, .ref g12, .ref g13, .ref g14, .ref g15, .ref g16, .ref g17, .ref g18, .ref g19, .int (u_8.2 2 0), .int (u_8.2 3 0), .ref g22, .int (u_8.2 4 0), .ref g24, .int (u_8.2 5 0), .int (u_8.2 6 0), .int (u_8.2 7 0), .ref g28, .ref g29, .int (u_8.2 8 0), .int (u_8.2 9 0)]))] := hD
      have hq_1121 := hw
      obtain rfl : r_9 = (1 : Int32) := hw.trans hq_1115
      refine lv_iload hx hb dL_law_1124 (lv_at hl 1 rfl) ?_
      refine lv_icmp_eq (tgt := 1131) hx hb dL_law_1126 (by decide) (fun c_1126 => ?_) (fun c_1126 => ?_)
      rotate_left
      · exact absurd c_1126 (by decide)
      refine lv_iload hx hb dL_law_1131 (lv_at hl 1 rfl) ?_
      refine lv_if_ne (tgt := 1148) hx hb dL_law_1133 (by decide) (fun c_1133 => ?_) (fun c_1133 => ?_)
      rotate_left
      · exact absurd c_1133 (by decide)
      refine lv_goto (tgt := 1732) hx hb dL_law_1148 (by decide) ?_
      exact lc_end ⟨hl0, hx, hb, hr, hml, hown, ht, hX, hbl, hlocks, hK, hE, hA, hAs, hbA⟩ (by decide) (by decide) hS (lv_sub hl [2, 6] rfl)
    · skip
      refine lv_iconst (v := 1) hx hb dL_law_1110 (by decide) ?_
      refine lv_goto (tgt := 1115) hx hb dL_law_1111 (by decide) ?_
      have hPc := hP.sub (ws' := [(mo, .inr (9, [.int 0, .int 0, .ref g2, .ref g3, .ref g4, .ref g5, .ref g6, .ref g7, .ref g8, .ref g9, .ref g10, .ref g11, .ref g12, .ref g13, .ref g14, .ref g15, .ref g16, .ref g17, .ref g18, .ref g19, .int 0, .int 0, .ref g22, .int 0, .ref g24, .int 0, .int 0, .int (-1), .ref g28, .ref g29, .int 0, .int 0]))]) [0] rfl
      have hDc := hD.sub (ws' := [(mo, .inr (9, [.int 0, .int 0, .ref g2, .ref g3, .ref g4, .ref g5, .ref g6, .ref g7, .ref g8, .ref g9, .ref g10, .ref g11, .ref g12, .ref g13, .ref g14, .ref g15, .ref g16, .ref g17, .ref g18, .ref g19, .int 0, .int 0, .ref g22, .int 0, .ref g24, .int 0, .int 0, .int (-1), .ref g28, .ref g29, .int 0, .int 0]))]) [0] (by decide) rfl
      have hFc := va_free (wc := [(mo, .inr (9, [.int 0, .int 0, .ref g2, .ref g3, .ref g4, .ref g5, .ref g6, .ref g7, .ref g8, .ref g9, .ref g10, .ref g11, .ref g12, .ref g13, .ref g14, .ref g15, .ref g16, .ref g17, .ref g18, .ref g19, .int 0, .int 0, .ref g22, .int 0, .ref g24, .int 0, .int 0, .int (-1), .ref g28, .ref g29, .int 0, .int 0]))]) hD hS hA [0] rfl
      refine va_calli (vx_runVW (As := [.int (xs (Int32.toNatClampNeg 1)), .int 1]) (rest := []) ⟨hx, hb, hml, hown, ht⟩ (k9p_keys l D C s.heap.size H.size mo g2 g3 g4 g5 g6 g7 g8 g9 g10 g11 g12 g13 g14 g15 g16 g17 g18 g19 g22 g24 g28 g29 ((xs (Int32.toNatClampNeg 1))) 1) (vx_cwVW 2 ht (xg_V m_617 m_618 m_619 m_391 m_236) rfl rfl rfl (by decide +kernel) ⟨Nat.le_of_ble_eq_true rfl, Nat.le_of_ble_eq_true rfl⟩) ⟨xPc_bl, va_recv hK hPc (ci := 9) (q0 := 0) rfl rfl, xPc_at hPc hK hDc hE hS hAb⟩ rfl rfl hl.1 rfl (lv_room (Nat.le_of_ble_eq_true rfl)) dL_law_1115 ⟨(by decide), (by decide)⟩) hS (fun q _ h => hFc q h) hFc (fun r_11 u_12 t H1 locs ht1 hvm hw hB hz1 hk1 hS => ?_)
      obtain ⟨hP1, hD1⟩ := hB
      rw [ht1] at hP1
      try dsimp only at hw
      obtain ⟨hP, hD⟩ := va_join (wr := [(ou, .inl (C 2, 1, .inr (.inl (u_4))))]) (w1 := [(mo, .inr (9, [.int (u_12.2 0 0), .int (u_12.2 1 0), .ref g2, .ref g3, .ref g4, .ref g5, .ref g6, .ref g7, .ref g8, .ref g9, .ref g10, .ref g11, .ref g12, .ref g13, .ref g14, .ref g15, .ref g16, .ref g17, .ref g18, .ref g19, .int (u_12.2 2 0), .int (u_12.2 3 0), .ref g22, .int (u_12.2 4 0), .ref g24, .int (u_12.2 5 0), .int (u_12.2 6 0), .int (u_12.2 7 0), .ref g28, .ref g29, .int (u_12.2 8 0), .int (u_12.2 9 0)]))]) hP hD [0] [1] rfl rfl (by decide) (by decide) hk1 hFc hP1 hD1
      generalize H1 = H at hP hS ⊢
      have hP : va_P D vwCl [(ou, .inl (C 2, 1, .inr (.inl (u_4)))), (mo, .inr (9, [.int (u_12.2 0 0), .int (u_12.2 1 0), .ref g2, .ref g3, .ref g4, .ref g5, .ref g6, .ref g7, .ref g8, .ref g9, .ref g10, .ref g11, .ref g12, .ref g13, .ref g14, .ref g15, .ref g16, .ref g17, .ref g18, .ref g19, .int (u_12.2 2 0), .int (u_12.2 3 0), .ref g22, .int (u_12.2 4 0), .ref g24, .int (u_12.2 5 0), .int (u_12.2 6 0), .int (u_12.2 7 0), .ref g28, .ref g29, .int (u_12.2 8 0), .int (u_12.2 9 0)]))] H := hP
      have hD : va_D A [(ou, .inl (C 2, 1, .inr (.inl (u_4)))), (mo, .inr (9, [.int (u_12.2 0 0), .int (u_12.2 1 0), .ref g2, .ref g3, .ref g4, .ref g5, .ref g6, .ref g7, .ref g8, .ref g9, .ref g10, .ref g11, .ref g12, .ref g13, .ref g14, .ref g15, .ref g16, .ref g17, .ref g18, .ref g19, .int (u_12.2 2 0), .int (u_12.2 3 0), .ref g22, .int (u_12.2 4 0), .ref g24, .int (u_12.2 5 0), .int (u_12.2 6 0), .int (u_12.2 7 0), .ref g28, .ref g29, .int (u_12.2 8 0), .int (u_12.2 9 0)]))] := hD
      have hq_1115 := hw
      refine W.widen (k := 258) (n := 111962) (by decide) (by decide) ?_
      refine lv_istore (lv' := [(6, .int r_11), (5, .int 1), (4, .int 0), (3, .ref ou), (2, .ref mo), (1, .ref h0), (0, .ref b)]) hx hb dL_law_1118 hl (by decide) rfl (fun ls hl => ?_)
      refine lv_aload_n hx hb dL_law_1120 rfl (lv_at hl 4 rfl) ?_
      have hPc := hP.sub (ws' := [(mo, .inr (9, [.int (u_12.2 0 0), .int (u_12.2 1 0), .ref g2, .ref g3, .ref g4, .ref g5, .ref g6, .ref g7, .ref g8, .ref g9, .ref g10, .ref g11, .ref g12, .ref g13, .ref g14, .ref g15, .ref g16, .ref g17, .ref g18, .ref g19, .int (u_12.2 2 0), .int (u_12.2 3 0), .ref g22, .int (u_12.2 4 0), .ref g24, .int (u_12.2 5 0), .int (u_12.2 6 0), .int (u_12.2 7 0), .ref g28, .ref g29, .int (u_12.2 8 0), .int (u_12.2 9 0)]))]) [1] rfl
      have hDc := hD.sub (ws' := [(mo, .inr (9, [.int (u_12.2 0 0), .int (u_12.2 1 0), .ref g2, .ref g3, .ref g4, .ref g5, .ref g6, .ref g7, .ref g8, .ref g9, .ref g10, .ref g11, .ref g12, .ref g13, .ref g14, .ref g15, .ref g16, .ref g17, .ref g18, .ref g19, .int (u_12.2 2 0), .int (u_12.2 3 0), .ref g22, .int (u_12.2 4 0), .ref g24, .int (u_12.2 5 0), .int (u_12.2 6 0), .int (u_12.2 7 0), .ref g28, .ref g29, .int (u_12.2 8 0), .int (u_12.2 9 0)]))]) [1] (by decide) rfl
      have hFc := va_free (wc := [(mo, .inr (9, [.int (u_12.2 0 0), .int (u_12.2 1 0), .ref g2, .ref g3, .ref g4, .ref g5, .ref g6, .ref g7, .ref g8, .ref g9, .ref g10, .ref g11, .ref g12, .ref g13, .ref g14, .ref g15, .ref g16, .ref g17, .ref g18, .ref g19, .int (u_12.2 2 0), .int (u_12.2 3 0), .ref g22, .int (u_12.2 4 0), .ref g24, .int (u_12.2 5 0), .int (u_12.2 6 0), .int (u_12.2 7 0), .ref g28, .ref g29, .int (u_12.2 8 0), .int (u_12.2 9 0)]))]) hD hS hA [1] rfl
      refine va_calli (va_runV (As := []) (rest := []) ⟨hx, hb, hml, hown, ht⟩ (k9_thrown l D C s.heap.size H.size mo g2 g3 g4 g5 g6 g7 g8 g9 g10 g11 g12 g13 g14 g15 g16 g17 g18 g19 g22 g24 g28 g29 (u_12.2 0 0) (u_12.2 1 0) (u_12.2 2 0) (u_12.2 3 0) (u_12.2 4 0) (u_12.2 5 0) (u_12.2 6 0) (u_12.2 7 0) (u_12.2 8 0) (u_12.2 9 0)) (cwV 0 ht (xg_V m_562 m_563 m_564 m_391 m_221) rfl rfl rfl (by decide +kernel) ⟨Nat.le_of_ble_eq_true rfl, Nat.le_of_ble_eq_true rfl⟩) ⟨xPc_bl, va_recv hK hPc (ci := 9) (q0 := 0) rfl rfl, xPc_at hPc hK hDc hE hS hAb⟩ rfl rfl hl.1 rfl (lv_room (Nat.le_of_ble_eq_true rfl)) dL_law_1121 ⟨(by decide), (by decide)⟩) hS (fun q _ h => hFc q h) hFc (fun r_13 u_14 t H1 locs ht1 hvm hw hB hz1 hk1 hS => ?_)
      obtain ⟨hP1, hD1⟩ := hB
      rw [ht1] at hP1
      try dsimp only at hw
      obtain ⟨hP, hD⟩ := va_join (wr := [(ou, .inl (C 2, 1, .inr (.inl (u_4))))]) (w1 := [(mo, .inr (9, [.int (u_12.2 0 0), .int (u_12.2 1 0), .ref g2, .ref g3, .ref g4, .ref g5, .ref g6, .ref g7, .ref g8, .ref g9, .ref g10, .ref g11, .ref g12, .ref g13, .ref g14, .ref g15, .ref g16, .ref g17, .ref g18, .ref g19, .int (u_12.2 2 0), .int (u_12.2 3 0), .ref g22, .int (u_12.2 4 0), .ref g24, .int (u_12.2 5 0), .int (u_12.2 6 0), .int (u_12.2 7 0), .ref g28, .ref g29, .int (u_12.2 8 0), .int (u_12.2 9 0)]))]) hP hD [1] [0] rfl rfl (by decide) (by decide) hk1 hFc hP1 hD1
      generalize H1 = H at hP hS ⊢
      have hP : va_P D vwCl [(ou, .inl (C 2, 1, .inr (.inl (u_4)))), (mo, .inr (9, [.int (u_12.2 0 0), .int (u_12.2 1 0), .ref g2, .ref g3, .ref g4, .ref g5, .ref g6, .ref g7, .ref g8, .ref g9, .ref g10, .ref g11, .ref g12, .ref g13, .ref g14, .ref g15, .ref g16, .ref g17, .ref g18, .ref g19, .int (u_12.2 2 0), .int (u_12.2 3 0), .ref g22, .int (u_12.2 4 0), .ref g24, .int (u_12.2 5 0), .int (u_12.2 6 0), .int (u_12.2 7 0), .ref g28, .ref g29, .int (u_12.2 8 0), .int (u_12.2 9 0)]))] H := hP
      have hD : va_D A [(ou, .inl (C 2, 1, .inr (.inl (u_4)))), (mo, .inr (9, [.int (u_12.2 0 0), .int (u_12.2 1 0), .ref g2, .ref g3, .ref g4, .ref g5, .ref g6, .ref g7, .ref g8, .ref g9, .ref g10, .ref g11, .ref g12, .ref g13, .ref g14, .ref g15, .ref g16, .ref g17, .ref g18, .ref g19, .int (u_12.2 2 0), .int (u_12.2 3 0), .ref g22, .int (u_12.2 4 0), .ref g24, .int (u_12.2 5 0), .int (u_12.2 6 0), .int (u_12.2 7 0), .ref g28, .ref g29, .int (u_12.2 8 0), .int (u_12.2 9 0)]))] := hD
      have hq_1121 := hw
      obtain rfl : r_13 = (1 : Int32) := hw.trans hq_1115
      refine lv_iload hx hb dL_law_1124 (lv_at hl 1 rfl) ?_
      refine lv_icmp_eq (tgt := 1131) hx hb dL_law_1126 (by decide) (fun c_1126 => ?_) (fun c_1126 => ?_)
      rotate_left
      · exact absurd c_1126 (by decide)
      refine lv_iload hx hb dL_law_1131 (lv_at hl 1 rfl) ?_
      refine lv_if_ne (tgt := 1148) hx hb dL_law_1133 (by decide) (fun c_1133 => ?_) (fun c_1133 => ?_)
      rotate_left
      · exact absurd c_1133 (by decide)
      refine lv_goto (tgt := 1732) hx hb dL_law_1148 (by decide) ?_
      exact lc_end ⟨hl0, hx, hb, hr, hml, hown, ht, hX, hbl, hlocks, hK, hE, hA, hAs, hbA⟩ (by decide) (by decide) hS (lv_sub hl [2, 6] rfl)
  · skip
    refine lv_iconst (v := 1) hx hb dL_law_1083 (by decide) ?_
    refine lv_goto (tgt := 1088) hx hb dL_law_1084 (by decide) ?_
    refine lv_aload_n hx hb dL_law_1088 rfl (lv_at hl 1 rfl) ?_
    have hPc := hP.sub (ws' := [(h0, .inr (5, [.ref s0, .ref de, .ref kl, .ref tl, .ref cu, .ref hk, .ref ca, .int 0, .int 0, .int (-1), .int 0, .int 0])), (kl, .inr (2, [.ref kx, .ref ky, .int 0])), (tl, .inr (4, [.ref tx, .ref ty, .int 1])), (s0, .inr (3, [.ref a0, .ref a1, .ref a2, .ref a3, .ref a4, .ref a5, .ref a6, .int 0, .ref a7, .ref a8, .ref a9, .ref a10, .ref a11, .int 0])), (ou, .inl (C 2, 1, .inr (.inl fo)))]) [0, 1, 2, 3, 4] rfl
    have hDc := hD.sub (ws' := [(h0, .inr (5, [.ref s0, .ref de, .ref kl, .ref tl, .ref cu, .ref hk, .ref ca, .int 0, .int 0, .int (-1), .int 0, .int 0])), (kl, .inr (2, [.ref kx, .ref ky, .int 0])), (tl, .inr (4, [.ref tx, .ref ty, .int 1])), (s0, .inr (3, [.ref a0, .ref a1, .ref a2, .ref a3, .ref a4, .ref a5, .ref a6, .int 0, .ref a7, .ref a8, .ref a9, .ref a10, .ref a11, .int 0])), (ou, .inl (C 2, 1, .inr (.inl fo)))]) [0, 1, 2, 3, 4] (by decide) rfl
    have hFc := va_free (wc := [(h0, .inr (5, [.ref s0, .ref de, .ref kl, .ref tl, .ref cu, .ref hk, .ref ca, .int 0, .int 0, .int (-1), .int 0, .int 0])), (kl, .inr (2, [.ref kx, .ref ky, .int 0])), (tl, .inr (4, [.ref tx, .ref ty, .int 1])), (s0, .inr (3, [.ref a0, .ref a1, .ref a2, .ref a3, .ref a4, .ref a5, .ref a6, .int 0, .ref a7, .ref a8, .ref a9, .ref a10, .ref a11, .int 0])), (ou, .inl (C 2, 1, .inr (.inl fo)))]) hD hS hA [0, 1, 2, 3, 4] rfl
    refine va_calli (vx_runSW (As := [.ref h0, .int (xs (Int32.toNatClampNeg 1)), .int 1, .ref ou]) (rest := []) ⟨hx, hb, hml, hown, ht⟩ (kL_keys l hl0 D C s.heap.size H.size h0 s0 de kl tl cu hk ca kx ky tx ty a0 a1 a2 a3 a4 a5 a6 a7 a8 a9 a10 a11 ((xs (Int32.toNatClampNeg 1))) 1 ou fo) (vx_cwSW 4 ht (xg_T m_615 m_616 m_558 m_480) rfl rfl rfl (by decide +kernel) ⟨Nat.le_of_ble_eq_true rfl, Nat.le_of_ble_eq_true rfl⟩) ⟨xPc_bl, xPc_at hPc hK hDc hE hS hAb⟩ rfl rfl hl.1 rfl (lv_room (Nat.le_of_ble_eq_true rfl)) dL_law_1089 ⟨(by decide), (by decide)⟩) hS (fun q _ h => hFc q h) hFc (fun r_15 u_16 t H1 locs ht1 hvm hw hB hz1 hk1 hS => ?_)
    obtain ⟨hP1, hD1⟩ := hB
    rw [ht1] at hP1
    try dsimp only at hw
    obtain ⟨hP, hD⟩ := va_join (wr := [(mo, .inr (9, [.int 0, .int 0, .ref g2, .ref g3, .ref g4, .ref g5, .ref g6, .ref g7, .ref g8, .ref g9, .ref g10, .ref g11, .ref g12, .ref g13, .ref g14, .ref g15, .ref g16, .ref g17, .ref g18, .ref g19, .int 0, .int 0, .ref g22, .int 0, .ref g24, .int 0, .int 0, .int (-1), .ref g28, .ref g29, .int 0, .int 0]))]) (w1 := [(ou, .inl (C 2, 1, .inr (.inl (u_16))))]) hP hD [0, 1, 2, 3, 4] [5] rfl rfl (by decide) (by decide) hk1 hFc hP1 hD1
    generalize H1 = H at hP hS ⊢
    have hP : va_P D vwCl [(mo, .inr (9, [.int 0, .int 0, .ref g2, .ref g3, .ref g4, .ref g5, .ref g6, .ref g7, .ref g8, .ref g9, .ref g10, .ref g11, .ref g12, .ref g13, .ref g14, .ref g15, .ref g16, .ref g17, .ref g18, .ref g19, .int 0, .int 0, .ref g22, .int 0, .ref g24, .int 0, .int 0, .int (-1), .ref g28, .ref g29, .int 0, .int 0])), (ou, .inl (C 2, 1, .inr (.inl (u_16))))] H := hP
    have hD : va_D A [(mo, .inr (9, [.int 0, .int 0, .ref g2, .ref g3, .ref g4, .ref g5, .ref g6, .ref g7, .ref g8, .ref g9, .ref g10, .ref g11, .ref g12, .ref g13, .ref g14, .ref g15, .ref g16, .ref g17, .ref g18, .ref g19, .int 0, .int 0, .ref g22, .int 0, .ref g24, .int 0, .int 0, .int (-1), .ref g28, .ref g29, .int 0, .int 0])), (ou, .inl (C 2, 1, .inr (.inl (u_16))))] := hD
    have hq_1089 := hw
    obtain rfl : r_15 = (1 : Int32) := hw
    refine W.widen (k := 257) (n := 111955) (by decide) (by decide) ?_
    refine lv_istore (lv' := [(5, .int 1), (4, .int 0), (3, .ref ou), (2, .ref mo), (1, .ref h0), (0, .ref b)]) hx hb dL_law_1092 hl (by decide) rfl (fun ls hl => ?_)
    refine lv_aload_n hx hb dL_law_1094 rfl (lv_at hl 3 rfl) ?_
    refine lv_aload_n hx hb dL_law_1095 rfl (lv_at hl 5 rfl) ?_
    refine lv_iload hx hb dL_law_1096 (lv_at hl 1 rfl) ?_
    refine lv_iconst (v := 1) hx hb dL_law_1098 (by decide) ?_
    refine lv_iadd hx hb dL_law_1099 ?_
    refine lv_topi (fun x_17 ex_17 => ?_)
    obtain rfl : x_17 = (1 : Int32) := ex_17.trans (by decide)
    refine va_sld hx hb hX hbl hbA hS (by unfold vp_in; decide) dL_law_1100 ?_
    refine lv_aload_n hx hb dL_law_1101 rfl (lv_at hl 5 rfl) ?_
    refine lv_iload hx hb dL_law_1102 (lv_at hl 1 rfl) ?_
    refine lv_iconst (v := 2) hx hb dL_law_1104 (by decide) ?_
    refine lv_iadd hx hb dL_law_1105 ?_
    refine lv_topi (fun x_18 ex_18 => ?_)
    obtain rfl : x_18 = (2 : Int32) := ex_18.trans (by decide)
    refine va_sld hx hb hX hbl hbA hS (by unfold vp_in; decide) dL_law_1106 ?_
    refine lv_if_eq (tgt := 1114) hx hb dL_law_1107 (by decide) (fun c_1107 => ?_) (fun c_1107 => ?_)
    · skip
      refine lv_iconst (v := 0) hx hb dL_law_1114 (by decide) ?_
      have hPc := hP.sub (ws' := [(mo, .inr (9, [.int 0, .int 0, .ref g2, .ref g3, .ref g4, .ref g5, .ref g6, .ref g7, .ref g8, .ref g9, .ref g10, .ref g11, .ref g12, .ref g13, .ref g14, .ref g15, .ref g16, .ref g17, .ref g18, .ref g19, .int 0, .int 0, .ref g22, .int 0, .ref g24, .int 0, .int 0, .int (-1), .ref g28, .ref g29, .int 0, .int 0]))]) [0] rfl
      have hDc := hD.sub (ws' := [(mo, .inr (9, [.int 0, .int 0, .ref g2, .ref g3, .ref g4, .ref g5, .ref g6, .ref g7, .ref g8, .ref g9, .ref g10, .ref g11, .ref g12, .ref g13, .ref g14, .ref g15, .ref g16, .ref g17, .ref g18, .ref g19, .int 0, .int 0, .ref g22, .int 0, .ref g24, .int 0, .int 0, .int (-1), .ref g28, .ref g29, .int 0, .int 0]))]) [0] (by decide) rfl
      have hFc := va_free (wc := [(mo, .inr (9, [.int 0, .int 0, .ref g2, .ref g3, .ref g4, .ref g5, .ref g6, .ref g7, .ref g8, .ref g9, .ref g10, .ref g11, .ref g12, .ref g13, .ref g14, .ref g15, .ref g16, .ref g17, .ref g18, .ref g19, .int 0, .int 0, .ref g22, .int 0, .ref g24, .int 0, .int 0, .int (-1), .ref g28, .ref g29, .int 0, .int 0]))]) hD hS hA [0] rfl
      refine va_calli (vx_runVW (As := [.int (xs (Int32.toNatClampNeg 1)), .int 0]) (rest := []) ⟨hx, hb, hml, hown, ht⟩ (k9p_keys l D C s.heap.size H.size mo g2 g3 g4 g5 g6 g7 g8 g9 g10 g11 g12 g13 g14 g15 g16 g17 g18 g19 g22 g24 g28 g29 ((xs (Int32.toNatClampNeg 1))) 0) (vx_cwVW 2 ht (xg_V m_617 m_618 m_619 m_391 m_236) rfl rfl rfl (by decide +kernel) ⟨Nat.le_of_ble_eq_true rfl, Nat.le_of_ble_eq_true rfl⟩) ⟨xPc_bl, va_recv hK hPc (ci := 9) (q0 := 0) rfl rfl, xPc_at hPc hK hDc hE hS hAb⟩ rfl rfl hl.1 rfl (lv_room (Nat.le_of_ble_eq_true rfl)) dL_law_1115 ⟨(by decide), (by decide)⟩) hS (fun q _ h => hFc q h) hFc (fun r_19 u_20 t H1 locs ht1 hvm hw hB hz1 hk1 hS => ?_)
      obtain ⟨hP1, hD1⟩ := hB
      rw [ht1] at hP1
      try dsimp only at hw
      obtain ⟨hP, hD⟩ := va_join (wr := [(ou, .inl (C 2, 1, .inr (.inl (u_16))))]) (w1 := [(mo, .inr (9, [.int (u_20.2 0 0), .int (u_20.2 1 0), .ref g2, .ref g3, .ref g4, .ref g5, .ref g6, .ref g7, .ref g8, .ref g9, .ref g10, .ref g11, .ref g12, .ref g13, .ref g14, .ref g15, .ref g16, .ref g17, .ref g18, .ref g19, .int (u_20.2 2 0), .int (u_20.2 3 0), .ref g22, .int (u_20.2 4 0), .ref g24, .int (u_20.2 5 0), .int (u_20.2 6 0), .int (u_20.2 7 0), .ref g28, .ref g29, .int (u_20.2 8 0), .int (u_20.2 9 0)]))]) hP hD [0] [1] rfl rfl (by decide) (by decide) hk1 hFc hP1 hD1
      generalize H1 = H at hP hS ⊢
      have hP : va_P D vwCl [(ou, .inl (C 2, 1, .inr (.inl (u_16)))), (mo, .inr (9, [.int (u_20.2 0 0), .int (u_20.2 1 0), .ref g2, .ref g3, .ref g4, .ref g5, .ref g6, .ref g7, .ref g8, .ref g9, .ref g10, .ref g11, .ref g12, .ref g13, .ref g14, .ref g15, .ref g16, .ref g17, .ref g18, .ref g19, .int (u_20.2 2 0), .int (u_20.2 3 0), .ref g22, .int (u_20.2 4 0), .ref g24, .int (u_20.2 5 0), .int (u_20.2 6 0), .int (u_20.2 7 0), .ref g28, .ref g29, .int (u_20.2 8 0), .int (u_20.2 9 0)]))] H := hP
      have hD : va_D A [(ou, .inl (C 2, 1, .inr (.inl (u_16)))), (mo, .inr (9, [.int (u_20.2 0 0), .int (u_20.2 1 0), .ref g2, .ref g3, .ref g4, .ref g5, .ref g6, .ref g7, .ref g8, .ref g9, .ref g10, .ref g11, .ref g12, .ref g13, .ref g14, .ref g15, .ref g16, .ref g17, .ref g18, .ref g19, .int (u_20.2 2 0), .int (u_20.2 3 0), .ref g22, .int (u_20.2 4 0), .ref g24, .int (u_20.2 5 0), .int (u_20.2 6 0), .int (u_20.2 7 0), .ref g28, .ref g29, .int (u_20.2 8 0), .int (u_20.2 9 0)]))] := hD
      have hq_1115 := hw
      refine W.widen (k := 258) (n := 111962) (by decide) (by decide) ?_
      refine lv_istore (lv' := [(6, .int r_19), (5, .int 1), (4, .int 0), (3, .ref ou), (2, .ref mo), (1, .ref h0), (0, .ref b)]) hx hb dL_law_1118 hl (by decide) rfl (fun ls hl => ?_)
      refine lv_aload_n hx hb dL_law_1120 rfl (lv_at hl 4 rfl) ?_
      have hPc := hP.sub (ws' := [(mo, .inr (9, [.int (u_20.2 0 0), .int (u_20.2 1 0), .ref g2, .ref g3, .ref g4, .ref g5, .ref g6, .ref g7, .ref g8, .ref g9, .ref g10, .ref g11, .ref g12, .ref g13, .ref g14, .ref g15, .ref g16, .ref g17, .ref g18, .ref g19, .int (u_20.2 2 0), .int (u_20.2 3 0), .ref g22, .int (u_20.2 4 0), .ref g24, .int (u_20.2 5 0), .int (u_20.2 6 0), .int (u_20.2 7 0), .ref g28, .ref g29, .int (u_20.2 8 0), .int (u_20.2 9 0)]))]) [1] rfl
      have hDc := hD.sub (ws' := [(mo, .inr (9, [.int (u_20.2 0 0), .int (u_20.2 1 0), .ref g2, .ref g3, .ref g4, .ref g5, .ref g6, .ref g7, .ref g8, .ref g9, .ref g10, .ref g11, .ref g12, .ref g13, .ref g14, .ref g15, .ref g16, .ref g17, .ref g18, .ref g19, .int (u_20.2 2 0), .int (u_20.2 3 0), .ref g22, .int (u_20.2 4 0), .ref g24, .int (u_20.2 5 0), .int (u_20.2 6 0), .int (u_20.2 7 0), .ref g28, .ref g29, .int (u_20.2 8 0), .int (u_20.2 9 0)]))]) [1] (by decide) rfl
      have hFc := va_free (wc := [(mo, .inr (9, [.int (u_20.2 0 0), .int (u_20.2 1 0), .ref g2, .ref g3, .ref g4, .ref g5, .ref g6, .ref g7, .ref g8, .ref g9, .ref g10, .ref g11, .ref g12, .ref g13, .ref g14, .ref g15, .ref g16, .ref g17, .ref g18, .ref g19, .int (u_20.2 2 0), .int (u_20.2 3 0), .ref g22, .int (u_20.2 4 0), .ref g24, .int (u_20.2 5 0), .int (u_20.2 6 0), .int (u_20.2 7 0), .ref g28, .ref g29, .int (u_20.2 8 0), .int (u_20.2 9 0)]))]) hD hS hA [1] rfl
      refine va_calli (va_runV (As := []) (rest := []) ⟨hx, hb, hml, hown, ht⟩ (k9_thrown l D C s.heap.size H.size mo g2 g3 g4 g5 g6 g7 g8 g9 g10 g11 g12 g13 g14 g15 g16 g17 g18 g19 g22 g24 g28 g29 (u_20.2 0 0) (u_20.2 1 0) (u_20.2 2 0) (u_20.2 3 0) (u_20.2 4 0) (u_20.2 5 0) (u_20.2 6 0) (u_20.2 7 0) (u_20.2 8 0) (u_20.2 9 0)) (cwV 0 ht (xg_V m_562 m_563 m_564 m_391 m_221) rfl rfl rfl (by decide +kernel) ⟨Nat.le_of_ble_eq_true rfl, Nat.le_of_ble_eq_true rfl⟩) ⟨xPc_bl, va_recv hK hPc (ci := 9) (q0 := 0) rfl rfl, xPc_at hPc hK hDc hE hS hAb⟩ rfl rfl hl.1 rfl (lv_room (Nat.le_of_ble_eq_true rfl)) dL_law_1121 ⟨(by decide), (by decide)⟩) hS (fun q _ h => hFc q h) hFc (fun r_21 u_22 t H1 locs ht1 hvm hw hB hz1 hk1 hS => ?_)
      obtain ⟨hP1, hD1⟩ := hB
      rw [ht1] at hP1
      try dsimp only at hw
      obtain ⟨hP, hD⟩ := va_join (wr := [(ou, .inl (C 2, 1, .inr (.inl (u_16))))]) (w1 := [(mo, .inr (9, [.int (u_20.2 0 0), .int (u_20.2 1 0), .ref g2, .ref g3, .ref g4, .ref g5, .ref g6, .ref g7, .ref g8, .ref g9, .ref g10, .ref g11, .ref g12, .ref g13, .ref g14, .ref g15, .ref g16, .ref g17, .ref g18, .ref g19, .int (u_20.2 2 0), .int (u_20.2 3 0), .ref g22, .int (u_20.2 4 0), .ref g24, .int (u_20.2 5 0), .int (u_20.2 6 0), .int (u_20.2 7 0), .ref g28, .ref g29, .int (u_20.2 8 0), .int (u_20.2 9 0)]))]) hP hD [1] [0] rfl rfl (by decide) (by decide) hk1 hFc hP1 hD1
      generalize H1 = H at hP hS ⊢
      have hP : va_P D vwCl [(ou, .inl (C 2, 1, .inr (.inl (u_16)))), (mo, .inr (9, [.int (u_20.2 0 0), .int (u_20.2 1 0), .ref g2, .ref g3, .ref g4, .ref g5, .ref g6, .ref g7, .ref g8, .ref g9, .ref g10, .ref g11, .ref g12, .ref g13, .ref g14, .ref g15, .ref g16, .ref g17, .ref g18, .ref g19, .int (u_20.2 2 0), .int (u_20.2 3 0), .ref g22, .int (u_20.2 4 0), .ref g24, .int (u_20.2 5 0), .int (u_20.2 6 0), .int (u_20.2 7 0), .ref g28, .ref g29, .int (u_20.2 8 0), .int (u_20.2 9 0)]))] H := hP
      have hD : va_D A [(ou, .inl (C 2, 1, .inr (.inl (u_16)))), (mo, .inr (9, [.int (u_20.2 0 0), .int (u_20.2 1 0), .ref g2, .ref g3, .ref g4, .ref g5, .ref g6, .ref g7, .ref g8, .ref g9, .ref g10, .ref g11, .ref g12, .ref g13, .ref g14, .ref g15, .ref g16, .ref g17, .ref g18, .ref g19, .int (u_20.2 2 0), .int (u_20.2 3 0), .ref g22, .int (u_20.2 4 0), .ref g24, .int (u_20.2 5 0), .int (u_20.2 6 0), .int (u_20.2 7 0), .ref g28, .ref g29, .int (u_20.2 8 0), .int (u_20.2 9 0)]))] := hD
      have hq_1121 := hw
      obtain rfl : r_21 = (1 : Int32) := hw.trans hq_1115
      refine lv_iload hx hb dL_law_1124 (lv_at hl 1 rfl) ?_
      refine lv_icmp_eq (tgt := 1131) hx hb dL_law_1126 (by decide) (fun c_1126 => ?_) (fun c_1126 => ?_)
      rotate_left
      · exact absurd c_1126 (by decide)
      refine lv_iload hx hb dL_law_1131 (lv_at hl 1 rfl) ?_
      refine lv_if_ne (tgt := 1148) hx hb dL_law_1133 (by decide) (fun c_1133 => ?_) (fun c_1133 => ?_)
      rotate_left
      · exact absurd c_1133 (by decide)
      refine lv_goto (tgt := 1732) hx hb dL_law_1148 (by decide) ?_
      exact lc_end ⟨hl0, hx, hb, hr, hml, hown, ht, hX, hbl, hlocks, hK, hE, hA, hAs, hbA⟩ (by decide) (by decide) hS (lv_sub hl [2, 6] rfl)
    · skip
      refine lv_iconst (v := 1) hx hb dL_law_1110 (by decide) ?_
      refine lv_goto (tgt := 1115) hx hb dL_law_1111 (by decide) ?_
      have hPc := hP.sub (ws' := [(mo, .inr (9, [.int 0, .int 0, .ref g2, .ref g3, .ref g4, .ref g5, .ref g6, .ref g7, .ref g8, .ref g9, .ref g10, .ref g11, .ref g12, .ref g13, .ref g14, .ref g15, .ref g16, .ref g17, .ref g18, .ref g19, .int 0, .int 0, .ref g22, .int 0, .ref g24, .int 0, .int 0, .int (-1), .ref g28, .ref g29, .int 0, .int 0]))]) [0] rfl
      have hDc := hD.sub (ws' := [(mo, .inr (9, [.int 0, .int 0, .ref g2, .ref g3, .ref g4, .ref g5, .ref g6, .ref g7, .ref g8, .ref g9, .ref g10, .ref g11, .ref g12, .ref g13, .ref g14, .ref g15, .ref g16, .ref g17, .ref g18, .ref g19, .int 0, .int 0, .ref g22, .int 0, .ref g24, .int 0, .int 0, .int (-1), .ref g28, .ref g29, .int 0, .int 0]))]) [0] (by decide) rfl
      have hFc := va_free (wc := [(mo, .inr (9, [.int 0, .int 0, .ref g2, .ref g3, .ref g4, .ref g5, .ref g6, .ref g7, .ref g8, .ref g9, .ref g10, .ref g11, .ref g12, .ref g13, .ref g14, .ref g15, .ref g16, .ref g17, .ref g18, .ref g19, .int 0, .int 0, .ref g22, .int 0, .ref g24, .int 0, .int 0, .int (-1), .ref g28, .ref g29, .int 0, .int 0]))]) hD hS hA [0] rfl
      refine va_calli (vx_runVW (As := [.int (xs (Int32.toNatClampNeg 1)), .int 1]) (rest := []) ⟨hx, hb, hml, hown, ht⟩ (k9p_keys l D C s.heap.size H.size mo g2 g3 g4 g5 g6 g7 g8 g9 g10 g11 g12 g13 g14 g15 g16 g17 g18 g19 g22 g24 g28 g29 ((xs (Int32.toNatClampNeg 1))) 1) (vx_cwVW 2 ht (xg_V m_617 m_618 m_619 m_391 m_236) rfl rfl rfl (by decide +kernel) ⟨Nat.le_of_ble_eq_true rfl, Nat.le_of_ble_eq_true rfl⟩) ⟨xPc_bl, va_recv hK hPc (ci := 9) (q0 := 0) rfl rfl, xPc_at hPc hK hDc hE hS hAb⟩ rfl rfl hl.1 rfl (lv_room (Nat.le_of_ble_eq_true rfl)) dL_law_1115 ⟨(by decide), (by decide)⟩) hS (fun q _ h => hFc q h) hFc (fun r_23 u_24 t H1 locs ht1 hvm hw hB hz1 hk1 hS => ?_)
      obtain ⟨hP1, hD1⟩ := hB
      rw [ht1] at hP1
      try dsimp only at hw
      obtain ⟨hP, hD⟩ := va_join (wr := [(ou, .inl (C 2, 1, .inr (.inl (u_16))))]) (w1 := [(mo, .inr (9, [.int (u_24.2 0 0), .int (u_24.2 1 0), .ref g2, .ref g3, .ref g4, .ref g5, .ref g6, .ref g7, .ref g8, .ref g9, .ref g10, .ref g11, .ref g12, .ref g13, .ref g14, .ref g15, .ref g16, .ref g17, .ref g18, .ref g19, .int (u_24.2 2 0), .int (u_24.2 3 0), .ref g22, .int (u_24.2 4 0), .ref g24, .int (u_24.2 5 0), .int (u_24.2 6 0), .int (u_24.2 7 0), .ref g28, .ref g29, .int (u_24.2 8 0), .int (u_24.2 9 0)]))]) hP hD [0] [1] rfl rfl (by decide) (by decide) hk1 hFc hP1 hD1
      generalize H1 = H at hP hS ⊢
      have hP : va_P D vwCl [(ou, .inl (C 2, 1, .inr (.inl (u_16)))), (mo, .inr (9, [.int (u_24.2 0 0), .int (u_24.2 1 0), .ref g2, .ref g3, .ref g4, .ref g5, .ref g6, .ref g7, .ref g8, .ref g9, .ref g10, .ref g11, .ref g12, .ref g13, .ref g14, .ref g15, .ref g16, .ref g17, .ref g18, .ref g19, .int (u_24.2 2 0), .int (u_24.2 3 0), .ref g22, .int (u_24.2 4 0), .ref g24, .int (u_24.2 5 0), .int (u_24.2 6 0), .int (u_24.2 7 0), .ref g28, .ref g29, .int (u_24.2 8 0), .int (u_24.2 9 0)]))] H := hP
      have hD : va_D A [(ou, .inl (C 2, 1, .inr (.inl (u_16)))), (mo, .inr (9, [.int (u_24.2 0 0), .int (u_24.2 1 0), .ref g2, .ref g3, .ref g4, .ref g5, .ref g6, .ref g7, .ref g8, .ref g9, .ref g10, .ref g11, .ref g12, .ref g13, .ref g14, .ref g15, .ref g16, .ref g17, .ref g18, .ref g19, .int (u_24.2 2 0), .int (u_24.2 3 0), .ref g22, .int (u_24.2 4 0), .ref g24, .int (u_24.2 5 0), .int (u_24.2 6 0), .int (u_24.2 7 0), .ref g28, .ref g29, .int (u_24.2 8 0), .int (u_24.2 9 0)]))] := hD
      have hq_1115 := hw
      refine W.widen (k := 258) (n := 111962) (by decide) (by decide) ?_
      refine lv_istore (lv' := [(6, .int r_23), (5, .int 1), (4, .int 0), (3, .ref ou), (2, .ref mo), (1, .ref h0), (0, .ref b)]) hx hb dL_law_1118 hl (by decide) rfl (fun ls hl => ?_)
      refine lv_aload_n hx hb dL_law_1120 rfl (lv_at hl 4 rfl) ?_
      have hPc := hP.sub (ws' := [(mo, .inr (9, [.int (u_24.2 0 0), .int (u_24.2 1 0), .ref g2, .ref g3, .ref g4, .ref g5, .ref g6, .ref g7, .ref g8, .ref g9, .ref g10, .ref g11, .ref g12, .ref g13, .ref g14, .ref g15, .ref g16, .ref g17, .ref g18, .ref g19, .int (u_24.2 2 0), .int (u_24.2 3 0), .ref g22, .int (u_24.2 4 0), .ref g24, .int (u_24.2 5 0), .int (u_24.2 6 0), .int (u_24.2 7 0), .ref g28, .ref g29, .int (u_24.2 8 0), .int (u_24.2 9 0)]))]) [1] rfl
      have hDc := hD.sub (ws' := [(mo, .inr (9, [.int (u_24.2 0 0), .int (u_24.2 1 0), .ref g2, .ref g3, .ref g4, .ref g5, .ref g6, .ref g7, .ref g8, .ref g9, .ref g10, .ref g11, .ref g12, .ref g13, .ref g14, .ref g15, .ref g16, .ref g17, .ref g18, .ref g19, .int (u_24.2 2 0), .int (u_24.2 3 0), .ref g22, .int (u_24.2 4 0), .ref g24, .int (u_24.2 5 0), .int (u_24.2 6 0), .int (u_24.2 7 0), .ref g28, .ref g29, .int (u_24.2 8 0), .int (u_24.2 9 0)]))]) [1] (by decide) rfl
      have hFc := va_free (wc := [(mo, .inr (9, [.int (u_24.2 0 0), .int (u_24.2 1 0), .ref g2, .ref g3, .ref g4, .ref g5, .ref g6, .ref g7, .ref g8, .ref g9, .ref g10, .ref g11, .ref g12, .ref g13, .ref g14, .ref g15, .ref g16, .ref g17, .ref g18, .ref g19, .int (u_24.2 2 0), .int (u_24.2 3 0), .ref g22, .int (u_24.2 4 0), .ref g24, .int (u_24.2 5 0), .int (u_24.2 6 0), .int (u_24.2 7 0), .ref g28, .ref g29, .int (u_24.2 8 0), .int (u_24.2 9 0)]))]) hD hS hA [1] rfl
      refine va_calli (va_runV (As := []) (rest := []) ⟨hx, hb, hml, hown, ht⟩ (k9_thrown l D C s.heap.size H.size mo g2 g3 g4 g5 g6 g7 g8 g9 g10 g11 g12 g13 g14 g15 g16 g17 g18 g19 g22 g24 g28 g29 (u_24.2 0 0) (u_24.2 1 0) (u_24.2 2 0) (u_24.2 3 0) (u_24.2 4 0) (u_24.2 5 0) (u_24.2 6 0) (u_24.2 7 0) (u_24.2 8 0) (u_24.2 9 0)) (cwV 0 ht (xg_V m_562 m_563 m_564 m_391 m_221) rfl rfl rfl (by decide +kernel) ⟨Nat.le_of_ble_eq_true rfl, Nat.le_of_ble_eq_true rfl⟩) ⟨xPc_bl, va_recv hK hPc (ci := 9) (q0 := 0) rfl rfl, xPc_at hPc hK hDc hE hS hAb⟩ rfl rfl hl.1 rfl (lv_room (Nat.le_of_ble_eq_true rfl)) dL_law_1121 ⟨(by decide), (by decide)⟩) hS (fun q _ h => hFc q h) hFc (fun r_25 u_26 t H1 locs ht1 hvm hw hB hz1 hk1 hS => ?_)
      obtain ⟨hP1, hD1⟩ := hB
      rw [ht1] at hP1
      try dsimp only at hw
      obtain ⟨hP, hD⟩ := va_join (wr := [(ou, .inl (C 2, 1, .inr (.inl (u_16))))]) (w1 := [(mo, .inr (9, [.int (u_24.2 0 0), .int (u_24.2 1 0), .ref g2, .ref g3, .ref g4, .ref g5, .ref g6, .ref g7, .ref g8, .ref g9, .ref g10, .ref g11, .ref g12, .ref g13, .ref g14, .ref g15, .ref g16, .ref g17, .ref g18, .ref g19, .int (u_24.2 2 0), .int (u_24.2 3 0), .ref g22, .int (u_24.2 4 0), .ref g24, .int (u_24.2 5 0), .int (u_24.2 6 0), .int (u_24.2 7 0), .ref g28, .ref g29, .int (u_24.2 8 0), .int (u_24.2 9 0)]))]) hP hD [1] [0] rfl rfl (by decide) (by decide) hk1 hFc hP1 hD1
      generalize H1 = H at hP hS ⊢
      have hP : va_P D vwCl [(ou, .inl (C 2, 1, .inr (.inl (u_16)))), (mo, .inr (9, [.int (u_24.2 0 0), .int (u_24.2 1 0), .ref g2, .ref g3, .ref g4, .ref g5, .ref g6, .ref g7, .ref g8, .ref g9, .ref g10, .ref g11, .ref g12, .ref g13, .ref g14, .ref g15, .ref g16, .ref g17, .ref g18, .ref g19, .int (u_24.2 2 0), .int (u_24.2 3 0), .ref g22, .int (u_24.2 4 0), .ref g24, .int (u_24.2 5 0), .int (u_24.2 6 0), .int (u_24.2 7 0), .ref g28, .ref g29, .int (u_24.2 8 0), .int (u_24.2 9 0)]))] H := hP
      have hD : va_D A [(ou, .inl (C 2, 1, .inr (.inl (u_16)))), (mo, .inr (9, [.int (u_24.2 0 0), .int (u_24.2 1 0), .ref g2, .ref g3, .ref g4, .ref g5, .ref g6, .ref g7, .ref g8, .ref g9, .ref g10, .ref g11, .ref g12, .ref g13, .ref g14, .ref g15, .ref g16, .ref g17, .ref g18, .ref g19, .int (u_24.2 2 0), .int (u_24.2 3 0), .ref g22, .int (u_24.2 4 0), .ref g24, .int (u_24.2 5 0), .int (u_24.2 6 0), .int (u_24.2 7 0), .ref g28, .ref g29, .int (u_24.2 8 0), .int (u_24.2 9 0)]))] := hD
      have hq_1121 := hw
      obtain rfl : r_25 = (1 : Int32) := hw.trans hq_1115
      refine lv_iload hx hb dL_law_1124 (lv_at hl 1 rfl) ?_
      refine lv_icmp_eq (tgt := 1131) hx hb dL_law_1126 (by decide) (fun c_1126 => ?_) (fun c_1126 => ?_)
      rotate_left
      · exact absurd c_1126 (by decide)
      refine lv_iload hx hb dL_law_1131 (lv_at hl 1 rfl) ?_
      refine lv_if_ne (tgt := 1148) hx hb dL_law_1133 (by decide) (fun c_1133 => ?_) (fun c_1133 => ?_)
      rotate_left
      · exact absurd c_1133 (by decide)
      refine lv_goto (tgt := 1732) hx hb dL_law_1148 (by decide) ?_
      exact lc_end ⟨hl0, hx, hb, hr, hml, hown, ht, hX, hbl, hlocks, hK, hE, hA, hAs, hbA⟩ (by decide) (by decide) hS (lv_sub hl [2, 6] rfl)
set_option maxHeartbeats 4000000 in
set_option maxRecDepth 100000 in
theorem lc_key {p : Program} {l : Launch} {e : Env} {s : State} {m : MethodId} {below : List Frame} {meth : Method} {c : Code} {b : Nat} {xs : Nat → Int32} {D : va_G} {C : Nat → ClassId} {A : Nat → Prop} {h0 s0 de kl tl cu hk ca kx ky tx ty a0 a1 a2 a3 a4 a5 a6 a7 a8 a9 a10 a11 ou mo g2 g3 g4 g5 g6 g7 g8 g9 g10 g11 g12 g13 g14 g15 g16 g17 g18 g19 g22 g24 g28 g29 : Nat} {fo : Nat → Int64} (h : lAt p l s m meth c b 6 xs D C A) {H : Heap} {locs : List Loc} {ls : Array Slot} (hP : va_P D vwCl [(h0, .inr (5, [.ref s0, .ref de, .ref kl, .ref tl, .ref cu, .ref hk, .ref ca, .int 0, .int 0, .int (-1), .int 0, .int 0])), (kl, .inr (2, [.ref kx, .ref ky, .int 0])), (tl, .inr (4, [.ref tx, .ref ty, .int 1])), (s0, .inr (3, [.ref a0, .ref a1, .ref a2, .ref a3, .ref a4, .ref a5, .ref a6, .int 0, .ref a7, .ref a8, .ref a9, .ref a10, .ref a11, .int 0])), (ou, .inl (C 2, 1, .inr (.inl fo))), (mo, .inr (9, [.int 0, .int 0, .ref g2, .ref g3, .ref g4, .ref g5, .ref g6, .ref g7, .ref g8, .ref g9, .ref g10, .ref g11, .ref g12, .ref g13, .ref g14, .ref g15, .ref g16, .ref g17, .ref g18, .ref g19, .int 0, .int 0, .ref g22, .int 0, .ref g24, .int 0, .int 0, .int (-1), .ref g28, .ref g29, .int 0, .int 0]))] H) (hD : va_D A [(h0, .inr (5, [.ref s0, .ref de, .ref kl, .ref tl, .ref cu, .ref hk, .ref ca, .int 0, .int 0, .int (-1), .int 0, .int 0])), (kl, .inr (2, [.ref kx, .ref ky, .int 0])), (tl, .inr (4, [.ref tx, .ref ty, .int 1])), (s0, .inr (3, [.ref a0, .ref a1, .ref a2, .ref a3, .ref a4, .ref a5, .ref a6, .int 0, .ref a7, .ref a8, .ref a9, .ref a10, .ref a11, .int 0])), (ou, .inl (C 2, 1, .inr (.inl fo))), (mo, .inr (9, [.int 0, .int 0, .ref g2, .ref g3, .ref g4, .ref g5, .ref g6, .ref g7, .ref g8, .ref g9, .ref g10, .ref g11, .ref g12, .ref g13, .ref g14, .ref g15, .ref g16, .ref g17, .ref g18, .ref g19, .int 0, .int 0, .ref g22, .int 0, .ref g24, .int 0, .int 0, .int (-1), .ref g28, .ref g29, .int 0, .int 0]))]) (hS : va_S A s.heap H locs) (hl : lv_has ls 7 [(4, .int 0), (3, .ref ou), (2, .ref mo), (1, .ref h0), (0, .ref b)]) : W p l e room_1 s m #[Value.ref b] below meth c H locs 254 111937 (lw_Z below #[Value.ref b] s) (F0 m 1151 ls []) := by
  obtain ⟨hl0, hx, hb, hr, hml, hown, ht, hX, hbl, hlocks, hK, hE, hA, hAs, hbA⟩ := h
  have hAb := hAs
  refine lv_aload_n hx hb dL_law_1151 rfl (lv_at hl 3 rfl) ?_
  refine lv_aload_n hx hb dL_law_1152 rfl (lv_at hl 4 rfl) ?_
  refine lv_iload hx hb dL_law_1153 (lv_at hl 0 rfl) ?_
  refine lv_iconst (v := 1) hx hb dL_law_1155 (by decide) ?_
  refine lv_iadd hx hb dL_law_1156 ?_
  refine lv_topi (fun x_1 ex_1 => ?_)
  obtain rfl : x_1 = (1 : Int32) := ex_1.trans (by decide)
  refine va_sld hx hb hX hbl hbA hS (by unfold vp_in; decide) dL_law_1157 ?_
  refine lv_aload_n hx hb dL_law_1158 rfl (lv_at hl 1 rfl) ?_
  have hPc := hP.sub (ws' := [(h0, .inr (5, [.ref s0, .ref de, .ref kl, .ref tl, .ref cu, .ref hk, .ref ca, .int 0, .int 0, .int (-1), .int 0, .int 0])), (kl, .inr (2, [.ref kx, .ref ky, .int 0])), (tl, .inr (4, [.ref tx, .ref ty, .int 1])), (s0, .inr (3, [.ref a0, .ref a1, .ref a2, .ref a3, .ref a4, .ref a5, .ref a6, .int 0, .ref a7, .ref a8, .ref a9, .ref a10, .ref a11, .int 0])), (ou, .inl (C 2, 1, .inr (.inl fo)))]) [0, 1, 2, 3, 4] rfl
  have hDc := hD.sub (ws' := [(h0, .inr (5, [.ref s0, .ref de, .ref kl, .ref tl, .ref cu, .ref hk, .ref ca, .int 0, .int 0, .int (-1), .int 0, .int 0])), (kl, .inr (2, [.ref kx, .ref ky, .int 0])), (tl, .inr (4, [.ref tx, .ref ty, .int 1])), (s0, .inr (3, [.ref a0, .ref a1, .ref a2, .ref a3, .ref a4, .ref a5, .ref a6, .int 0, .ref a7, .ref a8, .ref a9, .ref a10, .ref a11, .int 0])), (ou, .inl (C 2, 1, .inr (.inl fo)))]) [0, 1, 2, 3, 4] (by decide) rfl
  have hFc := va_free (wc := [(h0, .inr (5, [.ref s0, .ref de, .ref kl, .ref tl, .ref cu, .ref hk, .ref ca, .int 0, .int 0, .int (-1), .int 0, .int 0])), (kl, .inr (2, [.ref kx, .ref ky, .int 0])), (tl, .inr (4, [.ref tx, .ref ty, .int 1])), (s0, .inr (3, [.ref a0, .ref a1, .ref a2, .ref a3, .ref a4, .ref a5, .ref a6, .int 0, .ref a7, .ref a8, .ref a9, .ref a10, .ref a11, .int 0])), (ou, .inl (C 2, 1, .inr (.inl fo)))]) hD hS hA [0, 1, 2, 3, 4] rfl
  refine va_calli (vx_runSW (As := [.ref h0, .int (xs (Int32.toNatClampNeg 1)), .ref ou]) (rest := []) ⟨hx, hb, hml, hown, ht⟩ (kL_key l hl0 D C s.heap.size H.size h0 s0 de kl tl cu hk ca kx ky tx ty a0 a1 a2 a3 a4 a5 a6 a7 a8 a9 a10 a11 ((xs (Int32.toNatClampNeg 1))) ou fo) (vx_cwSW 3 ht (xg_T m_620 m_621 m_558 m_481) rfl rfl rfl (by decide +kernel) ⟨Nat.le_of_ble_eq_true rfl, Nat.le_of_ble_eq_true rfl⟩) ⟨xPc_bl, xPc_at hPc hK hDc hE hS hAb⟩ rfl rfl hl.1 rfl (lv_room (Nat.le_of_ble_eq_true rfl)) dL_law_1159 ⟨(by decide), (by decide)⟩) hS (fun q _ h => hFc q h) hFc (fun r_2 u_3 t H1 locs ht1 hvm hw hB hz1 hk1 hS => ?_)
  obtain ⟨hP1, hD1⟩ := hB
  rw [ht1] at hP1
  try dsimp only at hw
  obtain ⟨hP, hD⟩ := va_join (wr := [(mo, .inr (9, [.int 0, .int 0, .ref g2, .ref g3, .ref g4, .ref g5, .ref g6, .ref g7, .ref g8, .ref g9, .ref g10, .ref g11, .ref g12, .ref g13, .ref g14, .ref g15, .ref g16, .ref g17, .ref g18, .ref g19, .int 0, .int 0, .ref g22, .int 0, .ref g24, .int 0, .int 0, .int (-1), .ref g28, .ref g29, .int 0, .int 0]))]) (w1 := [(ou, .inl (C 2, 1, .inr (.inl (u_3))))]) hP hD [0, 1, 2, 3, 4] [5] rfl rfl (by decide) (by decide) hk1 hFc hP1 hD1
  generalize H1 = H at hP hS ⊢
  have hP : va_P D vwCl [(mo, .inr (9, [.int 0, .int 0, .ref g2, .ref g3, .ref g4, .ref g5, .ref g6, .ref g7, .ref g8, .ref g9, .ref g10, .ref g11, .ref g12, .ref g13, .ref g14, .ref g15, .ref g16, .ref g17, .ref g18, .ref g19, .int 0, .int 0, .ref g22, .int 0, .ref g24, .int 0, .int 0, .int (-1), .ref g28, .ref g29, .int 0, .int 0])), (ou, .inl (C 2, 1, .inr (.inl (u_3))))] H := hP
  have hD : va_D A [(mo, .inr (9, [.int 0, .int 0, .ref g2, .ref g3, .ref g4, .ref g5, .ref g6, .ref g7, .ref g8, .ref g9, .ref g10, .ref g11, .ref g12, .ref g13, .ref g14, .ref g15, .ref g16, .ref g17, .ref g18, .ref g19, .int 0, .int 0, .ref g22, .int 0, .ref g24, .int 0, .int 0, .int (-1), .ref g28, .ref g29, .int 0, .int 0])), (ou, .inl (C 2, 1, .inr (.inl (u_3))))] := hD
  have hq_1159 := hw
  obtain rfl : r_2 = (1 : Int32) := hw
  refine W.widen (k := 257) (n := 111955) (by decide) (by decide) ?_
  refine lv_istore (lv' := [(5, .int 1), (4, .int 0), (3, .ref ou), (2, .ref mo), (1, .ref h0), (0, .ref b)]) hx hb dL_law_1162 hl (by decide) rfl (fun ls hl => ?_)
  refine lv_aload_n hx hb dL_law_1164 rfl (lv_at hl 3 rfl) ?_
  refine lv_aload_n hx hb dL_law_1165 rfl (lv_at hl 5 rfl) ?_
  refine lv_iload hx hb dL_law_1166 (lv_at hl 1 rfl) ?_
  refine lv_iconst (v := 1) hx hb dL_law_1168 (by decide) ?_
  refine lv_iadd hx hb dL_law_1169 ?_
  refine lv_topi (fun x_4 ex_4 => ?_)
  obtain rfl : x_4 = (1 : Int32) := ex_4.trans (by decide)
  refine va_sld hx hb hX hbl hbA hS (by unfold vp_in; decide) dL_law_1170 ?_
  have hPc := hP.sub (ws' := [(mo, .inr (9, [.int 0, .int 0, .ref g2, .ref g3, .ref g4, .ref g5, .ref g6, .ref g7, .ref g8, .ref g9, .ref g10, .ref g11, .ref g12, .ref g13, .ref g14, .ref g15, .ref g16, .ref g17, .ref g18, .ref g19, .int 0, .int 0, .ref g22, .int 0, .ref g24, .int 0, .int 0, .int (-1), .ref g28, .ref g29, .int 0, .int 0]))]) [0] rfl
  have hDc := hD.sub (ws' := [(mo, .inr (9, [.int 0, .int 0, .ref g2, .ref g3, .ref g4, .ref g5, .ref g6, .ref g7, .ref g8, .ref g9, .ref g10, .ref g11, .ref g12, .ref g13, .ref g14, .ref g15, .ref g16, .ref g17, .ref g18, .ref g19, .int 0, .int 0, .ref g22, .int 0, .ref g24, .int 0, .int 0, .int (-1), .ref g28, .ref g29, .int 0, .int 0]))]) [0] (by decide) rfl
  have hFc := va_free (wc := [(mo, .inr (9, [.int 0, .int 0, .ref g2, .ref g3, .ref g4, .ref g5, .ref g6, .ref g7, .ref g8, .ref g9, .ref g10, .ref g11, .ref g12, .ref g13, .ref g14, .ref g15, .ref g16, .ref g17, .ref g18, .ref g19, .int 0, .int 0, .ref g22, .int 0, .ref g24, .int 0, .int 0, .int (-1), .ref g28, .ref g29, .int 0, .int 0]))]) hD hS hA [0] rfl
  refine va_calli (va_runV (As := [.int (xs (Int32.toNatClampNeg 1))]) (rest := []) ⟨hx, hb, hml, hown, ht⟩ (k9p_key l D C s.heap.size H.size mo g2 g3 g4 g5 g6 g7 g8 g9 g10 g11 g12 g13 g14 g15 g16 g17 g18 g19 g22 g24 g28 g29 ((xs (Int32.toNatClampNeg 1)))) (cwV 1 ht (xg_V m_622 m_623 m_624 m_391 m_227) rfl rfl rfl (by decide +kernel) ⟨Nat.le_of_ble_eq_true rfl, Nat.le_of_ble_eq_true rfl⟩) ⟨xPc_bl, va_recv hK hPc (ci := 9) (q0 := 0) rfl rfl, xPc_at hPc hK hDc hE hS hAb⟩ rfl rfl hl.1 rfl (lv_room (Nat.le_of_ble_eq_true rfl)) dL_law_1171 ⟨(by decide), (by decide)⟩) hS (fun q _ h => hFc q h) hFc (fun r_5 u_6 t H1 locs ht1 hvm hw hB hz1 hk1 hS => ?_)
  obtain ⟨hP1, hD1⟩ := hB
  rw [ht1] at hP1
  try dsimp only at hw
  obtain ⟨hP, hD⟩ := va_join (wr := [(ou, .inl (C 2, 1, .inr (.inl (u_3))))]) (w1 := [(mo, .inr (9, [.int (u_6.2 0 0), .int (u_6.2 1 0), .ref g2, .ref g3, .ref g4, .ref g5, .ref g6, .ref g7, .ref g8, .ref g9, .ref g10, .ref g11, .ref g12, .ref g13, .ref g14, .ref g15, .ref g16, .ref g17, .ref g18, .ref g19, .int (u_6.2 2 0), .int (u_6.2 3 0), .ref g22, .int (u_6.2 4 0), .ref g24, .int (u_6.2 5 0), .int (u_6.2 6 0), .int (u_6.2 7 0), .ref g28, .ref g29, .int (u_6.2 8 0), .int (u_6.2 9 0)]))]) hP hD [0] [1] rfl rfl (by decide) (by decide) hk1 hFc hP1 hD1
  generalize H1 = H at hP hS ⊢
  have hP : va_P D vwCl [(ou, .inl (C 2, 1, .inr (.inl (u_3)))), (mo, .inr (9, [.int (u_6.2 0 0), .int (u_6.2 1 0), .ref g2, .ref g3, .ref g4, .ref g5, .ref g6, .ref g7, .ref g8, .ref g9, .ref g10, .ref g11, .ref g12, .ref g13, .ref g14, .ref g15, .ref g16, .ref g17, .ref g18, .ref g19, .int (u_6.2 2 0), .int (u_6.2 3 0), .ref g22, .int (u_6.2 4 0), .ref g24, .int (u_6.2 5 0), .int (u_6.2 6 0), .int (u_6.2 7 0), .ref g28, .ref g29, .int (u_6.2 8 0), .int (u_6.2 9 0)]))] H := hP
  have hD : va_D A [(ou, .inl (C 2, 1, .inr (.inl (u_3)))), (mo, .inr (9, [.int (u_6.2 0 0), .int (u_6.2 1 0), .ref g2, .ref g3, .ref g4, .ref g5, .ref g6, .ref g7, .ref g8, .ref g9, .ref g10, .ref g11, .ref g12, .ref g13, .ref g14, .ref g15, .ref g16, .ref g17, .ref g18, .ref g19, .int (u_6.2 2 0), .int (u_6.2 3 0), .ref g22, .int (u_6.2 4 0), .ref g24, .int (u_6.2 5 0), .int (u_6.2 6 0), .int (u_6.2 7 0), .ref g28, .ref g29, .int (u_6.2 8 0), .int (u_6.2 9 0)]))] := hD
  have hq_1171 := hw
  refine lv_istore (lv' := [(6, .int r_5), (5, .int 1), (4, .int 0), (3, .ref ou), (2, .ref mo), (1, .ref h0), (0, .ref b)]) hx hb dL_law_1174 hl (by decide) rfl (fun ls hl => ?_)
  refine lv_aload_n hx hb dL_law_1176 rfl (lv_at hl 4 rfl) ?_
  have hPc := hP.sub (ws' := [(mo, .inr (9, [.int (u_6.2 0 0), .int (u_6.2 1 0), .ref g2, .ref g3, .ref g4, .ref g5, .ref g6, .ref g7, .ref g8, .ref g9, .ref g10, .ref g11, .ref g12, .ref g13, .ref g14, .ref g15, .ref g16, .ref g17, .ref g18, .ref g19, .int (u_6.2 2 0), .int (u_6.2 3 0), .ref g22, .int (u_6.2 4 0), .ref g24, .int (u_6.2 5 0), .int (u_6.2 6 0), .int (u_6.2 7 0), .ref g28, .ref g29, .int (u_6.2 8 0), .int (u_6.2 9 0)]))]) [1] rfl
  have hDc := hD.sub (ws' := [(mo, .inr (9, [.int (u_6.2 0 0), .int (u_6.2 1 0), .ref g2, .ref g3, .ref g4, .ref g5, .ref g6, .ref g7, .ref g8, .ref g9, .ref g10, .ref g11, .ref g12, .ref g13, .ref g14, .ref g15, .ref g16, .ref g17, .ref g18, .ref g19, .int (u_6.2 2 0), .int (u_6.2 3 0), .ref g22, .int (u_6.2 4 0), .ref g24, .int (u_6.2 5 0), .int (u_6.2 6 0), .int (u_6.2 7 0), .ref g28, .ref g29, .int (u_6.2 8 0), .int (u_6.2 9 0)]))]) [1] (by decide) rfl
  have hFc := va_free (wc := [(mo, .inr (9, [.int (u_6.2 0 0), .int (u_6.2 1 0), .ref g2, .ref g3, .ref g4, .ref g5, .ref g6, .ref g7, .ref g8, .ref g9, .ref g10, .ref g11, .ref g12, .ref g13, .ref g14, .ref g15, .ref g16, .ref g17, .ref g18, .ref g19, .int (u_6.2 2 0), .int (u_6.2 3 0), .ref g22, .int (u_6.2 4 0), .ref g24, .int (u_6.2 5 0), .int (u_6.2 6 0), .int (u_6.2 7 0), .ref g28, .ref g29, .int (u_6.2 8 0), .int (u_6.2 9 0)]))]) hD hS hA [1] rfl
  refine va_calli (va_runV (As := []) (rest := []) ⟨hx, hb, hml, hown, ht⟩ (k9_thrown l D C s.heap.size H.size mo g2 g3 g4 g5 g6 g7 g8 g9 g10 g11 g12 g13 g14 g15 g16 g17 g18 g19 g22 g24 g28 g29 (u_6.2 0 0) (u_6.2 1 0) (u_6.2 2 0) (u_6.2 3 0) (u_6.2 4 0) (u_6.2 5 0) (u_6.2 6 0) (u_6.2 7 0) (u_6.2 8 0) (u_6.2 9 0)) (cwV 0 ht (xg_V m_562 m_563 m_564 m_391 m_221) rfl rfl rfl (by decide +kernel) ⟨Nat.le_of_ble_eq_true rfl, Nat.le_of_ble_eq_true rfl⟩) ⟨xPc_bl, va_recv hK hPc (ci := 9) (q0 := 0) rfl rfl, xPc_at hPc hK hDc hE hS hAb⟩ rfl rfl hl.1 rfl (lv_room (Nat.le_of_ble_eq_true rfl)) dL_law_1177 ⟨(by decide), (by decide)⟩) hS (fun q _ h => hFc q h) hFc (fun r_7 u_8 t H1 locs ht1 hvm hw hB hz1 hk1 hS => ?_)
  obtain ⟨hP1, hD1⟩ := hB
  rw [ht1] at hP1
  try dsimp only at hw
  obtain ⟨hP, hD⟩ := va_join (wr := [(ou, .inl (C 2, 1, .inr (.inl (u_3))))]) (w1 := [(mo, .inr (9, [.int (u_6.2 0 0), .int (u_6.2 1 0), .ref g2, .ref g3, .ref g4, .ref g5, .ref g6, .ref g7, .ref g8, .ref g9, .ref g10, .ref g11, .ref g12, .ref g13, .ref g14, .ref g15, .ref g16, .ref g17, .ref g18, .ref g19, .int (u_6.2 2 0), .int (u_6.2 3 0), .ref g22, .int (u_6.2 4 0), .ref g24, .int (u_6.2 5 0), .int (u_6.2 6 0), .int (u_6.2 7 0), .ref g28, .ref g29, .int (u_6.2 8 0), .int (u_6.2 9 0)]))]) hP hD [1] [0] rfl rfl (by decide) (by decide) hk1 hFc hP1 hD1
  generalize H1 = H at hP hS ⊢
  have hP : va_P D vwCl [(ou, .inl (C 2, 1, .inr (.inl (u_3)))), (mo, .inr (9, [.int (u_6.2 0 0), .int (u_6.2 1 0), .ref g2, .ref g3, .ref g4, .ref g5, .ref g6, .ref g7, .ref g8, .ref g9, .ref g10, .ref g11, .ref g12, .ref g13, .ref g14, .ref g15, .ref g16, .ref g17, .ref g18, .ref g19, .int (u_6.2 2 0), .int (u_6.2 3 0), .ref g22, .int (u_6.2 4 0), .ref g24, .int (u_6.2 5 0), .int (u_6.2 6 0), .int (u_6.2 7 0), .ref g28, .ref g29, .int (u_6.2 8 0), .int (u_6.2 9 0)]))] H := hP
  have hD : va_D A [(ou, .inl (C 2, 1, .inr (.inl (u_3)))), (mo, .inr (9, [.int (u_6.2 0 0), .int (u_6.2 1 0), .ref g2, .ref g3, .ref g4, .ref g5, .ref g6, .ref g7, .ref g8, .ref g9, .ref g10, .ref g11, .ref g12, .ref g13, .ref g14, .ref g15, .ref g16, .ref g17, .ref g18, .ref g19, .int (u_6.2 2 0), .int (u_6.2 3 0), .ref g22, .int (u_6.2 4 0), .ref g24, .int (u_6.2 5 0), .int (u_6.2 6 0), .int (u_6.2 7 0), .ref g28, .ref g29, .int (u_6.2 8 0), .int (u_6.2 9 0)]))] := hD
  have hq_1177 := hw
  obtain rfl : r_7 = (1 : Int32) := hw.trans hq_1171
  refine lv_iload hx hb dL_law_1180 (lv_at hl 1 rfl) ?_
  refine lv_icmp_eq (tgt := 1187) hx hb dL_law_1182 (by decide) (fun c_1182 => ?_) (fun c_1182 => ?_)
  rotate_left
  · exact absurd c_1182 (by decide)
  refine lv_iload hx hb dL_law_1187 (lv_at hl 1 rfl) ?_
  refine lv_if_ne (tgt := 1204) hx hb dL_law_1189 (by decide) (fun c_1189 => ?_) (fun c_1189 => ?_)
  rotate_left
  · exact absurd c_1189 (by decide)
  refine lv_goto (tgt := 1732) hx hb dL_law_1204 (by decide) ?_
  exact lc_end ⟨hl0, hx, hb, hr, hml, hown, ht, hX, hbl, hlocks, hK, hE, hA, hAs, hbA⟩ (by decide) (by decide) hS (lv_sub hl [2, 6] rfl)
set_option maxHeartbeats 4000000 in
set_option maxRecDepth 100000 in
theorem lc_parent {p : Program} {l : Launch} {e : Env} {s : State} {m : MethodId} {below : List Frame} {meth : Method} {c : Code} {b : Nat} {xs : Nat → Int32} {D : va_G} {C : Nat → ClassId} {A : Nat → Prop} {h0 s0 de kl tl cu hk ca kx ky tx ty a0 a1 a2 a3 a4 a5 a6 a7 a8 a9 a10 a11 ou mo g2 g3 g4 g5 g6 g7 g8 g9 g10 g11 g12 g13 g14 g15 g16 g17 g18 g19 g22 g24 g28 g29 : Nat} {fo : Nat → Int64} (h : lAt p l s m meth c b 6 xs D C A) {H : Heap} {locs : List Loc} {ls : Array Slot} (hP : va_P D vwCl [(h0, .inr (5, [.ref s0, .ref de, .ref kl, .ref tl, .ref cu, .ref hk, .ref ca, .int 0, .int 0, .int (-1), .int 0, .int 0])), (kl, .inr (2, [.ref kx, .ref ky, .int 0])), (tl, .inr (4, [.ref tx, .ref ty, .int 1])), (s0, .inr (3, [.ref a0, .ref a1, .ref a2, .ref a3, .ref a4, .ref a5, .ref a6, .int 0, .ref a7, .ref a8, .ref a9, .ref a10, .ref a11, .int 0])), (ou, .inl (C 2, 1, .inr (.inl fo))), (mo, .inr (9, [.int 0, .int 0, .ref g2, .ref g3, .ref g4, .ref g5, .ref g6, .ref g7, .ref g8, .ref g9, .ref g10, .ref g11, .ref g12, .ref g13, .ref g14, .ref g15, .ref g16, .ref g17, .ref g18, .ref g19, .int 0, .int 0, .ref g22, .int 0, .ref g24, .int 0, .int 0, .int (-1), .ref g28, .ref g29, .int 0, .int 0]))] H) (hD : va_D A [(h0, .inr (5, [.ref s0, .ref de, .ref kl, .ref tl, .ref cu, .ref hk, .ref ca, .int 0, .int 0, .int (-1), .int 0, .int 0])), (kl, .inr (2, [.ref kx, .ref ky, .int 0])), (tl, .inr (4, [.ref tx, .ref ty, .int 1])), (s0, .inr (3, [.ref a0, .ref a1, .ref a2, .ref a3, .ref a4, .ref a5, .ref a6, .int 0, .ref a7, .ref a8, .ref a9, .ref a10, .ref a11, .int 0])), (ou, .inl (C 2, 1, .inr (.inl fo))), (mo, .inr (9, [.int 0, .int 0, .ref g2, .ref g3, .ref g4, .ref g5, .ref g6, .ref g7, .ref g8, .ref g9, .ref g10, .ref g11, .ref g12, .ref g13, .ref g14, .ref g15, .ref g16, .ref g17, .ref g18, .ref g19, .int 0, .int 0, .ref g22, .int 0, .ref g24, .int 0, .int 0, .int (-1), .ref g28, .ref g29, .int 0, .int 0]))]) (hS : va_S A s.heap H locs) (hl : lv_has ls 7 [(4, .int 0), (3, .ref ou), (2, .ref mo), (1, .ref h0), (0, .ref b)]) : W p l e room_1 s m #[Value.ref b] below meth c H locs 254 111937 (lw_Z below #[Value.ref b] s) (F0 m 1207 ls []) := by
  obtain ⟨hl0, hx, hb, hr, hml, hown, ht, hX, hbl, hlocks, hK, hE, hA, hAs, hbA⟩ := h
  have hAb := hAs
  refine lv_aload_n hx hb dL_law_1207 rfl (lv_at hl 3 rfl) ?_
  refine lv_aload_n hx hb dL_law_1208 rfl (lv_at hl 4 rfl) ?_
  refine lv_iload hx hb dL_law_1209 (lv_at hl 0 rfl) ?_
  refine lv_iconst (v := 1) hx hb dL_law_1211 (by decide) ?_
  refine lv_iadd hx hb dL_law_1212 ?_
  refine lv_topi (fun x_1 ex_1 => ?_)
  obtain rfl : x_1 = (1 : Int32) := ex_1.trans (by decide)
  refine va_sld hx hb hX hbl hbA hS (by unfold vp_in; decide) dL_law_1213 ?_
  refine lv_aload_n hx hb dL_law_1214 rfl (lv_at hl 1 rfl) ?_
  have hPc := hP.sub (ws' := [(h0, .inr (5, [.ref s0, .ref de, .ref kl, .ref tl, .ref cu, .ref hk, .ref ca, .int 0, .int 0, .int (-1), .int 0, .int 0])), (kl, .inr (2, [.ref kx, .ref ky, .int 0])), (tl, .inr (4, [.ref tx, .ref ty, .int 1])), (s0, .inr (3, [.ref a0, .ref a1, .ref a2, .ref a3, .ref a4, .ref a5, .ref a6, .int 0, .ref a7, .ref a8, .ref a9, .ref a10, .ref a11, .int 0])), (ou, .inl (C 2, 1, .inr (.inl fo)))]) [0, 1, 2, 3, 4] rfl
  have hDc := hD.sub (ws' := [(h0, .inr (5, [.ref s0, .ref de, .ref kl, .ref tl, .ref cu, .ref hk, .ref ca, .int 0, .int 0, .int (-1), .int 0, .int 0])), (kl, .inr (2, [.ref kx, .ref ky, .int 0])), (tl, .inr (4, [.ref tx, .ref ty, .int 1])), (s0, .inr (3, [.ref a0, .ref a1, .ref a2, .ref a3, .ref a4, .ref a5, .ref a6, .int 0, .ref a7, .ref a8, .ref a9, .ref a10, .ref a11, .int 0])), (ou, .inl (C 2, 1, .inr (.inl fo)))]) [0, 1, 2, 3, 4] (by decide) rfl
  have hFc := va_free (wc := [(h0, .inr (5, [.ref s0, .ref de, .ref kl, .ref tl, .ref cu, .ref hk, .ref ca, .int 0, .int 0, .int (-1), .int 0, .int 0])), (kl, .inr (2, [.ref kx, .ref ky, .int 0])), (tl, .inr (4, [.ref tx, .ref ty, .int 1])), (s0, .inr (3, [.ref a0, .ref a1, .ref a2, .ref a3, .ref a4, .ref a5, .ref a6, .int 0, .ref a7, .ref a8, .ref a9, .ref a10, .ref a11, .int 0])), (ou, .inl (C 2, 1, .inr (.inl fo)))]) hD hS hA [0, 1, 2, 3, 4] rfl
  refine va_calli (vx_runSW (As := [.ref h0, .int (xs (Int32.toNatClampNeg 1)), .ref ou]) (rest := []) ⟨hx, hb, hml, hown, ht⟩ (kL_parent l hl0 D C s.heap.size H.size h0 s0 de kl tl cu hk ca kx ky tx ty a0 a1 a2 a3 a4 a5 a6 a7 a8 a9 a10 a11 ((xs (Int32.toNatClampNeg 1))) ou fo) (vx_cwSW 3 ht (xg_T m_625 m_626 m_558 m_482) rfl rfl rfl (by decide +kernel) ⟨Nat.le_of_ble_eq_true rfl, Nat.le_of_ble_eq_true rfl⟩) ⟨xPc_bl, xPc_at hPc hK hDc hE hS hAb⟩ rfl rfl hl.1 rfl (lv_room (Nat.le_of_ble_eq_true rfl)) dL_law_1215 ⟨(by decide), (by decide)⟩) hS (fun q _ h => hFc q h) hFc (fun r_2 u_3 t H1 locs ht1 hvm hw hB hz1 hk1 hS => ?_)
  obtain ⟨hP1, hD1⟩ := hB
  rw [ht1] at hP1
  try dsimp only at hw
  obtain ⟨hP, hD⟩ := va_join (wr := [(mo, .inr (9, [.int 0, .int 0, .ref g2, .ref g3, .ref g4, .ref g5, .ref g6, .ref g7, .ref g8, .ref g9, .ref g10, .ref g11, .ref g12, .ref g13, .ref g14, .ref g15, .ref g16, .ref g17, .ref g18, .ref g19, .int 0, .int 0, .ref g22, .int 0, .ref g24, .int 0, .int 0, .int (-1), .ref g28, .ref g29, .int 0, .int 0]))]) (w1 := [(ou, .inl (C 2, 1, .inr (.inl (u_3))))]) hP hD [0, 1, 2, 3, 4] [5] rfl rfl (by decide) (by decide) hk1 hFc hP1 hD1
  generalize H1 = H at hP hS ⊢
  have hP : va_P D vwCl [(mo, .inr (9, [.int 0, .int 0, .ref g2, .ref g3, .ref g4, .ref g5, .ref g6, .ref g7, .ref g8, .ref g9, .ref g10, .ref g11, .ref g12, .ref g13, .ref g14, .ref g15, .ref g16, .ref g17, .ref g18, .ref g19, .int 0, .int 0, .ref g22, .int 0, .ref g24, .int 0, .int 0, .int (-1), .ref g28, .ref g29, .int 0, .int 0])), (ou, .inl (C 2, 1, .inr (.inl (u_3))))] H := hP
  have hD : va_D A [(mo, .inr (9, [.int 0, .int 0, .ref g2, .ref g3, .ref g4, .ref g5, .ref g6, .ref g7, .ref g8, .ref g9, .ref g10, .ref g11, .ref g12, .ref g13, .ref g14, .ref g15, .ref g16, .ref g17, .ref g18, .ref g19, .int 0, .int 0, .ref g22, .int 0, .ref g24, .int 0, .int 0, .int (-1), .ref g28, .ref g29, .int 0, .int 0])), (ou, .inl (C 2, 1, .inr (.inl (u_3))))] := hD
  have hq_1215 := hw
  obtain rfl : r_2 = (1 : Int32) := hw
  refine W.widen (k := 257) (n := 111955) (by decide) (by decide) ?_
  refine lv_istore (lv' := [(5, .int 1), (4, .int 0), (3, .ref ou), (2, .ref mo), (1, .ref h0), (0, .ref b)]) hx hb dL_law_1218 hl (by decide) rfl (fun ls hl => ?_)
  refine lv_aload_n hx hb dL_law_1220 rfl (lv_at hl 3 rfl) ?_
  refine lv_aload_n hx hb dL_law_1221 rfl (lv_at hl 5 rfl) ?_
  refine lv_iload hx hb dL_law_1222 (lv_at hl 1 rfl) ?_
  refine lv_iconst (v := 1) hx hb dL_law_1224 (by decide) ?_
  refine lv_iadd hx hb dL_law_1225 ?_
  refine lv_topi (fun x_4 ex_4 => ?_)
  obtain rfl : x_4 = (1 : Int32) := ex_4.trans (by decide)
  refine va_sld hx hb hX hbl hbA hS (by unfold vp_in; decide) dL_law_1226 ?_
  have hPc := hP.sub (ws' := [(mo, .inr (9, [.int 0, .int 0, .ref g2, .ref g3, .ref g4, .ref g5, .ref g6, .ref g7, .ref g8, .ref g9, .ref g10, .ref g11, .ref g12, .ref g13, .ref g14, .ref g15, .ref g16, .ref g17, .ref g18, .ref g19, .int 0, .int 0, .ref g22, .int 0, .ref g24, .int 0, .int 0, .int (-1), .ref g28, .ref g29, .int 0, .int 0]))]) [0] rfl
  have hDc := hD.sub (ws' := [(mo, .inr (9, [.int 0, .int 0, .ref g2, .ref g3, .ref g4, .ref g5, .ref g6, .ref g7, .ref g8, .ref g9, .ref g10, .ref g11, .ref g12, .ref g13, .ref g14, .ref g15, .ref g16, .ref g17, .ref g18, .ref g19, .int 0, .int 0, .ref g22, .int 0, .ref g24, .int 0, .int 0, .int (-1), .ref g28, .ref g29, .int 0, .int 0]))]) [0] (by decide) rfl
  have hFc := va_free (wc := [(mo, .inr (9, [.int 0, .int 0, .ref g2, .ref g3, .ref g4, .ref g5, .ref g6, .ref g7, .ref g8, .ref g9, .ref g10, .ref g11, .ref g12, .ref g13, .ref g14, .ref g15, .ref g16, .ref g17, .ref g18, .ref g19, .int 0, .int 0, .ref g22, .int 0, .ref g24, .int 0, .int 0, .int (-1), .ref g28, .ref g29, .int 0, .int 0]))]) hD hS hA [0] rfl
  refine va_calli (vx_runVW (As := [.int (xs (Int32.toNatClampNeg 1))]) (rest := []) ⟨hx, hb, hml, hown, ht⟩ (k9p_parent l D C s.heap.size H.size mo g2 g3 g4 g5 g6 g7 g8 g9 g10 g11 g12 g13 g14 g15 g16 g17 g18 g19 g22 g24 g28 g29 ((xs (Int32.toNatClampNeg 1)))) (vx_cwVW 1 ht (xg_V m_627 m_628 m_629 m_391 m_237) rfl rfl rfl (by decide +kernel) ⟨Nat.le_of_ble_eq_true rfl, Nat.le_of_ble_eq_true rfl⟩) ⟨xPc_bl, va_recv hK hPc (ci := 9) (q0 := 0) rfl rfl, xPc_at hPc hK hDc hE hS hAb⟩ rfl rfl hl.1 rfl (lv_room (Nat.le_of_ble_eq_true rfl)) dL_law_1227 ⟨(by decide), (by decide)⟩) hS (fun q _ h => hFc q h) hFc (fun r_5 u_6 t H1 locs ht1 hvm hw hB hz1 hk1 hS => ?_)
  obtain ⟨hP1, hD1⟩ := hB
  rw [ht1] at hP1
  try dsimp only at hw
  obtain ⟨hP, hD⟩ := va_join (wr := [(ou, .inl (C 2, 1, .inr (.inl (u_3))))]) (w1 := [(mo, .inr (9, [.int (u_6.2 0 0), .int (u_6.2 1 0), .ref g2, .ref g3, .ref g4, .ref g5, .ref g6, .ref g7, .ref g8, .ref g9, .ref g10, .ref g11, .ref g12, .ref g13, .ref g14, .ref g15, .ref g16, .ref g17, .ref g18, .ref g19, .int (u_6.2 2 0), .int (u_6.2 3 0), .ref g22, .int (u_6.2 4 0), .ref g24, .int (u_6.2 5 0), .int (u_6.2 6 0), .int (u_6.2 7 0), .ref g28, .ref g29, .int (u_6.2 8 0), .int (u_6.2 9 0)]))]) hP hD [0] [1] rfl rfl (by decide) (by decide) hk1 hFc hP1 hD1
  generalize H1 = H at hP hS ⊢
  have hP : va_P D vwCl [(ou, .inl (C 2, 1, .inr (.inl (u_3)))), (mo, .inr (9, [.int (u_6.2 0 0), .int (u_6.2 1 0), .ref g2, .ref g3, .ref g4, .ref g5, .ref g6, .ref g7, .ref g8, .ref g9, .ref g10, .ref g11, .ref g12, .ref g13, .ref g14, .ref g15, .ref g16, .ref g17, .ref g18, .ref g19, .int (u_6.2 2 0), .int (u_6.2 3 0), .ref g22, .int (u_6.2 4 0), .ref g24, .int (u_6.2 5 0), .int (u_6.2 6 0), .int (u_6.2 7 0), .ref g28, .ref g29, .int (u_6.2 8 0), .int (u_6.2 9 0)]))] H := hP
  have hD : va_D A [(ou, .inl (C 2, 1, .inr (.inl (u_3)))), (mo, .inr (9, [.int (u_6.2 0 0), .int (u_6.2 1 0), .ref g2, .ref g3, .ref g4, .ref g5, .ref g6, .ref g7, .ref g8, .ref g9, .ref g10, .ref g11, .ref g12, .ref g13, .ref g14, .ref g15, .ref g16, .ref g17, .ref g18, .ref g19, .int (u_6.2 2 0), .int (u_6.2 3 0), .ref g22, .int (u_6.2 4 0), .ref g24, .int (u_6.2 5 0), .int (u_6.2 6 0), .int (u_6.2 7 0), .ref g28, .ref g29, .int (u_6.2 8 0), .int (u_6.2 9 0)]))] := hD
  have hq_1227 := hw
  refine W.widen (k := 258) (n := 111962) (by decide) (by decide) ?_
  refine lv_istore (lv' := [(6, .int r_5), (5, .int 1), (4, .int 0), (3, .ref ou), (2, .ref mo), (1, .ref h0), (0, .ref b)]) hx hb dL_law_1230 hl (by decide) rfl (fun ls hl => ?_)
  refine lv_aload_n hx hb dL_law_1232 rfl (lv_at hl 4 rfl) ?_
  have hPc := hP.sub (ws' := [(mo, .inr (9, [.int (u_6.2 0 0), .int (u_6.2 1 0), .ref g2, .ref g3, .ref g4, .ref g5, .ref g6, .ref g7, .ref g8, .ref g9, .ref g10, .ref g11, .ref g12, .ref g13, .ref g14, .ref g15, .ref g16, .ref g17, .ref g18, .ref g19, .int (u_6.2 2 0), .int (u_6.2 3 0), .ref g22, .int (u_6.2 4 0), .ref g24, .int (u_6.2 5 0), .int (u_6.2 6 0), .int (u_6.2 7 0), .ref g28, .ref g29, .int (u_6.2 8 0), .int (u_6.2 9 0)]))]) [1] rfl
  have hDc := hD.sub (ws' := [(mo, .inr (9, [.int (u_6.2 0 0), .int (u_6.2 1 0), .ref g2, .ref g3, .ref g4, .ref g5, .ref g6, .ref g7, .ref g8, .ref g9, .ref g10, .ref g11, .ref g12, .ref g13, .ref g14, .ref g15, .ref g16, .ref g17, .ref g18, .ref g19, .int (u_6.2 2 0), .int (u_6.2 3 0), .ref g22, .int (u_6.2 4 0), .ref g24, .int (u_6.2 5 0), .int (u_6.2 6 0), .int (u_6.2 7 0), .ref g28, .ref g29, .int (u_6.2 8 0), .int (u_6.2 9 0)]))]) [1] (by decide) rfl
  have hFc := va_free (wc := [(mo, .inr (9, [.int (u_6.2 0 0), .int (u_6.2 1 0), .ref g2, .ref g3, .ref g4, .ref g5, .ref g6, .ref g7, .ref g8, .ref g9, .ref g10, .ref g11, .ref g12, .ref g13, .ref g14, .ref g15, .ref g16, .ref g17, .ref g18, .ref g19, .int (u_6.2 2 0), .int (u_6.2 3 0), .ref g22, .int (u_6.2 4 0), .ref g24, .int (u_6.2 5 0), .int (u_6.2 6 0), .int (u_6.2 7 0), .ref g28, .ref g29, .int (u_6.2 8 0), .int (u_6.2 9 0)]))]) hD hS hA [1] rfl
  refine va_calli (va_runV (As := []) (rest := []) ⟨hx, hb, hml, hown, ht⟩ (k9_thrown l D C s.heap.size H.size mo g2 g3 g4 g5 g6 g7 g8 g9 g10 g11 g12 g13 g14 g15 g16 g17 g18 g19 g22 g24 g28 g29 (u_6.2 0 0) (u_6.2 1 0) (u_6.2 2 0) (u_6.2 3 0) (u_6.2 4 0) (u_6.2 5 0) (u_6.2 6 0) (u_6.2 7 0) (u_6.2 8 0) (u_6.2 9 0)) (cwV 0 ht (xg_V m_562 m_563 m_564 m_391 m_221) rfl rfl rfl (by decide +kernel) ⟨Nat.le_of_ble_eq_true rfl, Nat.le_of_ble_eq_true rfl⟩) ⟨xPc_bl, va_recv hK hPc (ci := 9) (q0 := 0) rfl rfl, xPc_at hPc hK hDc hE hS hAb⟩ rfl rfl hl.1 rfl (lv_room (Nat.le_of_ble_eq_true rfl)) dL_law_1233 ⟨(by decide), (by decide)⟩) hS (fun q _ h => hFc q h) hFc (fun r_7 u_8 t H1 locs ht1 hvm hw hB hz1 hk1 hS => ?_)
  obtain ⟨hP1, hD1⟩ := hB
  rw [ht1] at hP1
  try dsimp only at hw
  obtain ⟨hP, hD⟩ := va_join (wr := [(ou, .inl (C 2, 1, .inr (.inl (u_3))))]) (w1 := [(mo, .inr (9, [.int (u_6.2 0 0), .int (u_6.2 1 0), .ref g2, .ref g3, .ref g4, .ref g5, .ref g6, .ref g7, .ref g8, .ref g9, .ref g10, .ref g11, .ref g12, .ref g13, .ref g14, .ref g15, .ref g16, .ref g17, .ref g18, .ref g19, .int (u_6.2 2 0), .int (u_6.2 3 0), .ref g22, .int (u_6.2 4 0), .ref g24, .int (u_6.2 5 0), .int (u_6.2 6 0), .int (u_6.2 7 0), .ref g28, .ref g29, .int (u_6.2 8 0), .int (u_6.2 9 0)]))]) hP hD [1] [0] rfl rfl (by decide) (by decide) hk1 hFc hP1 hD1
  generalize H1 = H at hP hS ⊢
  have hP : va_P D vwCl [(ou, .inl (C 2, 1, .inr (.inl (u_3)))), (mo, .inr (9, [.int (u_6.2 0 0), .int (u_6.2 1 0), .ref g2, .ref g3, .ref g4, .ref g5, .ref g6, .ref g7, .ref g8, .ref g9, .ref g10, .ref g11, .ref g12, .ref g13, .ref g14, .ref g15, .ref g16, .ref g17, .ref g18, .ref g19, .int (u_6.2 2 0), .int (u_6.2 3 0), .ref g22, .int (u_6.2 4 0), .ref g24, .int (u_6.2 5 0), .int (u_6.2 6 0), .int (u_6.2 7 0), .ref g28, .ref g29, .int (u_6.2 8 0), .int (u_6.2 9 0)]))] H := hP
  have hD : va_D A [(ou, .inl (C 2, 1, .inr (.inl (u_3)))), (mo, .inr (9, [.int (u_6.2 0 0), .int (u_6.2 1 0), .ref g2, .ref g3, .ref g4, .ref g5, .ref g6, .ref g7, .ref g8, .ref g9, .ref g10, .ref g11, .ref g12, .ref g13, .ref g14, .ref g15, .ref g16, .ref g17, .ref g18, .ref g19, .int (u_6.2 2 0), .int (u_6.2 3 0), .ref g22, .int (u_6.2 4 0), .ref g24, .int (u_6.2 5 0), .int (u_6.2 6 0), .int (u_6.2 7 0), .ref g28, .ref g29, .int (u_6.2 8 0), .int (u_6.2 9 0)]))] := hD
  have hq_1233 := hw
  obtain rfl : r_7 = (1 : Int32) := hw.trans hq_1227
  refine lv_iload hx hb dL_law_1236 (lv_at hl 1 rfl) ?_
  refine lv_icmp_eq (tgt := 1243) hx hb dL_law_1238 (by decide) (fun c_1238 => ?_) (fun c_1238 => ?_)
  rotate_left
  · exact absurd c_1238 (by decide)
  refine lv_iload hx hb dL_law_1243 (lv_at hl 1 rfl) ?_
  refine lv_if_ne (tgt := 1260) hx hb dL_law_1245 (by decide) (fun c_1245 => ?_) (fun c_1245 => ?_)
  rotate_left
  · exact absurd c_1245 (by decide)
  refine lv_goto (tgt := 1732) hx hb dL_law_1260 (by decide) ?_
  exact lc_end ⟨hl0, hx, hb, hr, hml, hown, ht, hX, hbl, hlocks, hK, hE, hA, hAs, hbA⟩ (by decide) (by decide) hS (lv_sub hl [2, 6] rfl)
set_option maxHeartbeats 4000000 in
set_option maxRecDepth 100000 in
theorem lc_setParent {p : Program} {l : Launch} {e : Env} {s : State} {m : MethodId} {below : List Frame} {meth : Method} {c : Code} {b : Nat} {xs : Nat → Int32} {D : va_G} {C : Nat → ClassId} {A : Nat → Prop} {h0 s0 de kl tl cu hk ca kx ky tx ty a0 a1 a2 a3 a4 a5 a6 a7 a8 a9 a10 a11 ou mo g2 g3 g4 g5 g6 g7 g8 g9 g10 g11 g12 g13 g14 g15 g16 g17 g18 g19 g22 g24 g28 g29 : Nat} {fo : Nat → Int64} (h : lAt p l s m meth c b 6 xs D C A) {H : Heap} {locs : List Loc} {ls : Array Slot} (hP : va_P D vwCl [(h0, .inr (5, [.ref s0, .ref de, .ref kl, .ref tl, .ref cu, .ref hk, .ref ca, .int 0, .int 0, .int (-1), .int 0, .int 0])), (kl, .inr (2, [.ref kx, .ref ky, .int 0])), (tl, .inr (4, [.ref tx, .ref ty, .int 1])), (s0, .inr (3, [.ref a0, .ref a1, .ref a2, .ref a3, .ref a4, .ref a5, .ref a6, .int 0, .ref a7, .ref a8, .ref a9, .ref a10, .ref a11, .int 0])), (ou, .inl (C 2, 1, .inr (.inl fo))), (mo, .inr (9, [.int 0, .int 0, .ref g2, .ref g3, .ref g4, .ref g5, .ref g6, .ref g7, .ref g8, .ref g9, .ref g10, .ref g11, .ref g12, .ref g13, .ref g14, .ref g15, .ref g16, .ref g17, .ref g18, .ref g19, .int 0, .int 0, .ref g22, .int 0, .ref g24, .int 0, .int 0, .int (-1), .ref g28, .ref g29, .int 0, .int 0]))] H) (hD : va_D A [(h0, .inr (5, [.ref s0, .ref de, .ref kl, .ref tl, .ref cu, .ref hk, .ref ca, .int 0, .int 0, .int (-1), .int 0, .int 0])), (kl, .inr (2, [.ref kx, .ref ky, .int 0])), (tl, .inr (4, [.ref tx, .ref ty, .int 1])), (s0, .inr (3, [.ref a0, .ref a1, .ref a2, .ref a3, .ref a4, .ref a5, .ref a6, .int 0, .ref a7, .ref a8, .ref a9, .ref a10, .ref a11, .int 0])), (ou, .inl (C 2, 1, .inr (.inl fo))), (mo, .inr (9, [.int 0, .int 0, .ref g2, .ref g3, .ref g4, .ref g5, .ref g6, .ref g7, .ref g8, .ref g9, .ref g10, .ref g11, .ref g12, .ref g13, .ref g14, .ref g15, .ref g16, .ref g17, .ref g18, .ref g19, .int 0, .int 0, .ref g22, .int 0, .ref g24, .int 0, .int 0, .int (-1), .ref g28, .ref g29, .int 0, .int 0]))]) (hS : va_S A s.heap H locs) (hl : lv_has ls 7 [(4, .int 0), (3, .ref ou), (2, .ref mo), (1, .ref h0), (0, .ref b)]) : W p l e room_1 s m #[Value.ref b] below meth c H locs 254 111937 (lw_Z below #[Value.ref b] s) (F0 m 1263 ls []) := by
  obtain ⟨hl0, hx, hb, hr, hml, hown, ht, hX, hbl, hlocks, hK, hE, hA, hAs, hbA⟩ := h
  have hAb := hAs
  refine lv_aload_n hx hb dL_law_1263 rfl (lv_at hl 3 rfl) ?_
  refine lv_aload_n hx hb dL_law_1264 rfl (lv_at hl 4 rfl) ?_
  refine lv_iload hx hb dL_law_1265 (lv_at hl 0 rfl) ?_
  refine lv_iconst (v := 1) hx hb dL_law_1267 (by decide) ?_
  refine lv_iadd hx hb dL_law_1268 ?_
  refine lv_topi (fun x_1 ex_1 => ?_)
  obtain rfl : x_1 = (1 : Int32) := ex_1.trans (by decide)
  refine va_sld hx hb hX hbl hbA hS (by unfold vp_in; decide) dL_law_1269 ?_
  refine lv_aload_n hx hb dL_law_1270 rfl (lv_at hl 4 rfl) ?_
  refine lv_iload hx hb dL_law_1271 (lv_at hl 0 rfl) ?_
  refine lv_iconst (v := 2) hx hb dL_law_1273 (by decide) ?_
  refine lv_iadd hx hb dL_law_1274 ?_
  refine lv_topi (fun x_2 ex_2 => ?_)
  obtain rfl : x_2 = (2 : Int32) := ex_2.trans (by decide)
  refine va_sld hx hb hX hbl hbA hS (by unfold vp_in; decide) dL_law_1275 ?_
  refine lv_aload_n hx hb dL_law_1276 rfl (lv_at hl 1 rfl) ?_
  have hPc := hP.sub (ws' := [(h0, .inr (5, [.ref s0, .ref de, .ref kl, .ref tl, .ref cu, .ref hk, .ref ca, .int 0, .int 0, .int (-1), .int 0, .int 0])), (kl, .inr (2, [.ref kx, .ref ky, .int 0])), (tl, .inr (4, [.ref tx, .ref ty, .int 1])), (s0, .inr (3, [.ref a0, .ref a1, .ref a2, .ref a3, .ref a4, .ref a5, .ref a6, .int 0, .ref a7, .ref a8, .ref a9, .ref a10, .ref a11, .int 0])), (ou, .inl (C 2, 1, .inr (.inl fo)))]) [0, 1, 2, 3, 4] rfl
  have hDc := hD.sub (ws' := [(h0, .inr (5, [.ref s0, .ref de, .ref kl, .ref tl, .ref cu, .ref hk, .ref ca, .int 0, .int 0, .int (-1), .int 0, .int 0])), (kl, .inr (2, [.ref kx, .ref ky, .int 0])), (tl, .inr (4, [.ref tx, .ref ty, .int 1])), (s0, .inr (3, [.ref a0, .ref a1, .ref a2, .ref a3, .ref a4, .ref a5, .ref a6, .int 0, .ref a7, .ref a8, .ref a9, .ref a10, .ref a11, .int 0])), (ou, .inl (C 2, 1, .inr (.inl fo)))]) [0, 1, 2, 3, 4] (by decide) rfl
  have hFc := va_free (wc := [(h0, .inr (5, [.ref s0, .ref de, .ref kl, .ref tl, .ref cu, .ref hk, .ref ca, .int 0, .int 0, .int (-1), .int 0, .int 0])), (kl, .inr (2, [.ref kx, .ref ky, .int 0])), (tl, .inr (4, [.ref tx, .ref ty, .int 1])), (s0, .inr (3, [.ref a0, .ref a1, .ref a2, .ref a3, .ref a4, .ref a5, .ref a6, .int 0, .ref a7, .ref a8, .ref a9, .ref a10, .ref a11, .int 0])), (ou, .inl (C 2, 1, .inr (.inl fo)))]) hD hS hA [0, 1, 2, 3, 4] rfl
  refine va_calli (vx_runSW (As := [.ref h0, .int (xs (Int32.toNatClampNeg 1)), .int (xs (Int32.toNatClampNeg 2)), .ref ou]) (rest := []) ⟨hx, hb, hml, hown, ht⟩ (kL_setParent l hl0 D C s.heap.size H.size h0 s0 de kl tl cu hk ca kx ky tx ty a0 a1 a2 a3 a4 a5 a6 a7 a8 a9 a10 a11 ((xs (Int32.toNatClampNeg 1))) ((xs (Int32.toNatClampNeg 2))) ou fo) (vx_cwSW 4 ht (xg_T m_630 m_631 m_558 m_483) rfl rfl rfl (by decide +kernel) ⟨Nat.le_of_ble_eq_true rfl, Nat.le_of_ble_eq_true rfl⟩) ⟨xPc_bl, xPc_at hPc hK hDc hE hS hAb⟩ rfl rfl hl.1 rfl (lv_room (Nat.le_of_ble_eq_true rfl)) dL_law_1277 ⟨(by decide), (by decide)⟩) hS (fun q _ h => hFc q h) hFc (fun r_3 u_4 t H1 locs ht1 hvm hw hB hz1 hk1 hS => ?_)
  obtain ⟨hP1, hD1⟩ := hB
  rw [ht1] at hP1
  try dsimp only at hw
  obtain ⟨hP, hD⟩ := va_join (wr := [(mo, .inr (9, [.int 0, .int 0, .ref g2, .ref g3, .ref g4, .ref g5, .ref g6, .ref g7, .ref g8, .ref g9, .ref g10, .ref g11, .ref g12, .ref g13, .ref g14, .ref g15, .ref g16, .ref g17, .ref g18, .ref g19, .int 0, .int 0, .ref g22, .int 0, .ref g24, .int 0, .int 0, .int (-1), .ref g28, .ref g29, .int 0, .int 0]))]) (w1 := [(ou, .inl (C 2, 1, .inr (.inl (u_4))))]) hP hD [0, 1, 2, 3, 4] [5] rfl rfl (by decide) (by decide) hk1 hFc hP1 hD1
  generalize H1 = H at hP hS ⊢
  have hP : va_P D vwCl [(mo, .inr (9, [.int 0, .int 0, .ref g2, .ref g3, .ref g4, .ref g5, .ref g6, .ref g7, .ref g8, .ref g9, .ref g10, .ref g11, .ref g12, .ref g13, .ref g14, .ref g15, .ref g16, .ref g17, .ref g18, .ref g19, .int 0, .int 0, .ref g22, .int 0, .ref g24, .int 0, .int 0, .int (-1), .ref g28, .ref g29, .int 0, .int 0])), (ou, .inl (C 2, 1, .inr (.inl (u_4))))] H := hP
  have hD : va_D A [(mo, .inr (9, [.int 0, .int 0, .ref g2, .ref g3, .ref g4, .ref g5, .ref g6, .ref g7, .ref g8, .ref g9, .ref g10, .ref g11, .ref g12, .ref g13, .ref g14, .ref g15, .ref g16, .ref g17, .ref g18, .ref g19, .int 0, .int 0, .ref g22, .int 0, .ref g24, .int 0, .int 0, .int (-1), .ref g28, .ref g29, .int 0, .int 0])), (ou, .inl (C 2, 1, .inr (.inl (u_4))))] := hD
  have hq_1277 := hw
  obtain rfl : r_3 = (1 : Int32) := hw
  refine W.widen (k := 257) (n := 111955) (by decide) (by decide) ?_
  refine lv_istore (lv' := [(5, .int 1), (4, .int 0), (3, .ref ou), (2, .ref mo), (1, .ref h0), (0, .ref b)]) hx hb dL_law_1280 hl (by decide) rfl (fun ls hl => ?_)
  refine lv_aload_n hx hb dL_law_1282 rfl (lv_at hl 3 rfl) ?_
  refine lv_aload_n hx hb dL_law_1283 rfl (lv_at hl 5 rfl) ?_
  refine lv_iload hx hb dL_law_1284 (lv_at hl 1 rfl) ?_
  refine lv_iconst (v := 1) hx hb dL_law_1286 (by decide) ?_
  refine lv_iadd hx hb dL_law_1287 ?_
  refine lv_topi (fun x_5 ex_5 => ?_)
  obtain rfl : x_5 = (1 : Int32) := ex_5.trans (by decide)
  refine va_sld hx hb hX hbl hbA hS (by unfold vp_in; decide) dL_law_1288 ?_
  refine lv_aload_n hx hb dL_law_1289 rfl (lv_at hl 5 rfl) ?_
  refine lv_iload hx hb dL_law_1290 (lv_at hl 1 rfl) ?_
  refine lv_iconst (v := 2) hx hb dL_law_1292 (by decide) ?_
  refine lv_iadd hx hb dL_law_1293 ?_
  refine lv_topi (fun x_6 ex_6 => ?_)
  obtain rfl : x_6 = (2 : Int32) := ex_6.trans (by decide)
  refine va_sld hx hb hX hbl hbA hS (by unfold vp_in; decide) dL_law_1294 ?_
  have hPc := hP.sub (ws' := [(mo, .inr (9, [.int 0, .int 0, .ref g2, .ref g3, .ref g4, .ref g5, .ref g6, .ref g7, .ref g8, .ref g9, .ref g10, .ref g11, .ref g12, .ref g13, .ref g14, .ref g15, .ref g16, .ref g17, .ref g18, .ref g19, .int 0, .int 0, .ref g22, .int 0, .ref g24, .int 0, .int 0, .int (-1), .ref g28, .ref g29, .int 0, .int 0]))]) [0] rfl
  have hDc := hD.sub (ws' := [(mo, .inr (9, [.int 0, .int 0, .ref g2, .ref g3, .ref g4, .ref g5, .ref g6, .ref g7, .ref g8, .ref g9, .ref g10, .ref g11, .ref g12, .ref g13, .ref g14, .ref g15, .ref g16, .ref g17, .ref g18, .ref g19, .int 0, .int 0, .ref g22, .int 0, .ref g24, .int 0, .int 0, .int (-1), .ref g28, .ref g29, .int 0, .int 0]))]) [0] (by decide) rfl
  have hFc := va_free (wc := [(mo, .inr (9, [.int 0, .int 0, .ref g2, .ref g3, .ref g4, .ref g5, .ref g6, .ref g7, .ref g8, .ref g9, .ref g10, .ref g11, .ref g12, .ref g13, .ref g14, .ref g15, .ref g16, .ref g17, .ref g18, .ref g19, .int 0, .int 0, .ref g22, .int 0, .ref g24, .int 0, .int 0, .int (-1), .ref g28, .ref g29, .int 0, .int 0]))]) hD hS hA [0] rfl
  refine va_calli (vx_runVW (As := [.int (xs (Int32.toNatClampNeg 1)), .int (xs (Int32.toNatClampNeg 2))]) (rest := []) ⟨hx, hb, hml, hown, ht⟩ (k9p_setParent l D C s.heap.size H.size mo g2 g3 g4 g5 g6 g7 g8 g9 g10 g11 g12 g13 g14 g15 g16 g17 g18 g19 g22 g24 g28 g29 ((xs (Int32.toNatClampNeg 1))) ((xs (Int32.toNatClampNeg 2)))) (vx_cwVW 2 ht (xg_V m_632 m_633 m_634 m_391 m_238) rfl rfl rfl (by decide +kernel) ⟨Nat.le_of_ble_eq_true rfl, Nat.le_of_ble_eq_true rfl⟩) ⟨xPc_bl, va_recv hK hPc (ci := 9) (q0 := 0) rfl rfl, xPc_at hPc hK hDc hE hS hAb⟩ rfl rfl hl.1 rfl (lv_room (Nat.le_of_ble_eq_true rfl)) dL_law_1295 ⟨(by decide), (by decide)⟩) hS (fun q _ h => hFc q h) hFc (fun r_7 u_8 t H1 locs ht1 hvm hw hB hz1 hk1 hS => ?_)
  obtain ⟨hP1, hD1⟩ := hB
  rw [ht1] at hP1
  try dsimp only at hw
  obtain ⟨hP, hD⟩ := va_join (wr := [(ou, .inl (C 2, 1, .inr (.inl (u_4))))]) (w1 := [(mo, .inr (9, [.int (u_8.2 0 0), .int (u_8.2 1 0), .ref g2, .ref g3, .ref g4, .ref g5, .ref g6, .ref g7, .ref g8, .ref g9, .ref g10, .ref g11, .ref g12, .ref g13, .ref g14, .ref g15, .ref g16, .ref g17, .ref g18, .ref g19, .int (u_8.2 2 0), .int (u_8.2 3 0), .ref g22, .int (u_8.2 4 0), .ref g24, .int (u_8.2 5 0), .int (u_8.2 6 0), .int (u_8.2 7 0), .ref g28, .ref g29, .int (u_8.2 8 0), .int (u_8.2 9 0)]))]) hP hD [0] [1] rfl rfl (by decide) (by decide) hk1 hFc hP1 hD1
  generalize H1 = H at hP hS ⊢
  have hP : va_P D vwCl [(ou, .inl (C 2, 1, .inr (.inl (u_4)))), (mo, .inr (9, [.int (u_8.2 0 0), .int (u_8.2 1 0), .ref g2, .ref g3, .ref g4, .ref g5, .ref g6, .ref g7, .ref g8, .ref g9, .ref g10, .ref g11, .ref g12, .ref g13, .ref g14, .ref g15, .ref g16, .ref g17, .ref g18, .ref g19, .int (u_8.2 2 0), .int (u_8.2 3 0), .ref g22, .int (u_8.2 4 0), .ref g24, .int (u_8.2 5 0), .int (u_8.2 6 0), .int (u_8.2 7 0), .ref g28, .ref g29, .int (u_8.2 8 0), .int (u_8.2 9 0)]))] H := hP
  have hD : va_D A [(ou, .inl (C 2, 1, .inr (.inl (u_4)))), (mo, .inr (9, [.int (u_8.2 0 0), .int (u_8.2 1 0), .ref g2, .ref g3, .ref g4, .ref g5, .ref g6, .ref g7, .ref g8, .ref g9, .ref g10, .ref g11, .ref g12, .ref g13, .ref g14, .ref g15, .ref g16, .ref g17, .ref g18, .ref g19, .int (u_8.2 2 0), .int (u_8.2 3 0), .ref g22, .int (u_8.2 4 0), .ref g24, .int (u_8.2 5 0), .int (u_8.2 6 0), .int (u_8.2 7 0), .ref g28, .ref g29, .int (u_8.2 8 0), .int (u_8.2 9 0)]))] := hD
  have hq_1295 := hw
  refine W.widen (k := 258) (n := 111962) (by decide) (by decide) ?_
  refine lv_istore (lv' := [(6, .int r_7), (5, .int 1), (4, .int 0), (3, .ref ou), (2, .ref mo), (1, .ref h0), (0, .ref b)]) hx hb dL_law_1298 hl (by decide) rfl (fun ls hl => ?_)
  refine lv_aload_n hx hb dL_law_1300 rfl (lv_at hl 4 rfl) ?_
  have hPc := hP.sub (ws' := [(mo, .inr (9, [.int (u_8.2 0 0), .int (u_8.2 1 0), .ref g2, .ref g3, .ref g4, .ref g5, .ref g6, .ref g7, .ref g8, .ref g9, .ref g10, .ref g11, .ref g12, .ref g13, .ref g14, .ref g15, .ref g16, .ref g17, .ref g18, .ref g19, .int (u_8.2 2 0), .int (u_8.2 3 0), .ref g22, .int (u_8.2 4 0), .ref g24, .int (u_8.2 5 0), .int (u_8.2 6 0), .int (u_8.2 7 0), .ref g28, .ref g29, .int (u_8.2 8 0), .int (u_8.2 9 0)]))]) [1] rfl
  have hDc := hD.sub (ws' := [(mo, .inr (9, [.int (u_8.2 0 0), .int (u_8.2 1 0), .ref g2, .ref g3, .ref g4, .ref g5, .ref g6, .ref g7, .ref g8, .ref g9, .ref g10, .ref g11, .ref g12, .ref g13, .ref g14, .ref g15, .ref g16, .ref g17, .ref g18, .ref g19, .int (u_8.2 2 0), .int (u_8.2 3 0), .ref g22, .int (u_8.2 4 0), .ref g24, .int (u_8.2 5 0), .int (u_8.2 6 0), .int (u_8.2 7 0), .ref g28, .ref g29, .int (u_8.2 8 0), .int (u_8.2 9 0)]))]) [1] (by decide) rfl
  have hFc := va_free (wc := [(mo, .inr (9, [.int (u_8.2 0 0), .int (u_8.2 1 0), .ref g2, .ref g3, .ref g4, .ref g5, .ref g6, .ref g7, .ref g8, .ref g9, .ref g10, .ref g11, .ref g12, .ref g13, .ref g14, .ref g15, .ref g16, .ref g17, .ref g18, .ref g19, .int (u_8.2 2 0), .int (u_8.2 3 0), .ref g22, .int (u_8.2 4 0), .ref g24, .int (u_8.2 5 0), .int (u_8.2 6 0), .int (u_8.2 7 0), .ref g28, .ref g29, .int (u_8.2 8 0), .int (u_8.2 9 0)]))]) hD hS hA [1] rfl
  refine va_calli (va_runV (As := []) (rest := []) ⟨hx, hb, hml, hown, ht⟩ (k9_thrown l D C s.heap.size H.size mo g2 g3 g4 g5 g6 g7 g8 g9 g10 g11 g12 g13 g14 g15 g16 g17 g18 g19 g22 g24 g28 g29 (u_8.2 0 0) (u_8.2 1 0) (u_8.2 2 0) (u_8.2 3 0) (u_8.2 4 0) (u_8.2 5 0) (u_8.2 6 0) (u_8.2 7 0) (u_8.2 8 0) (u_8.2 9 0)) (cwV 0 ht (xg_V m_562 m_563 m_564 m_391 m_221) rfl rfl rfl (by decide +kernel) ⟨Nat.le_of_ble_eq_true rfl, Nat.le_of_ble_eq_true rfl⟩) ⟨xPc_bl, va_recv hK hPc (ci := 9) (q0 := 0) rfl rfl, xPc_at hPc hK hDc hE hS hAb⟩ rfl rfl hl.1 rfl (lv_room (Nat.le_of_ble_eq_true rfl)) dL_law_1301 ⟨(by decide), (by decide)⟩) hS (fun q _ h => hFc q h) hFc (fun r_9 u_10 t H1 locs ht1 hvm hw hB hz1 hk1 hS => ?_)
  obtain ⟨hP1, hD1⟩ := hB
  rw [ht1] at hP1
  try dsimp only at hw
  obtain ⟨hP, hD⟩ := va_join (wr := [(ou, .inl (C 2, 1, .inr (.inl (u_4))))]) (w1 := [(mo, .inr (9, [.int (u_8.2 0 0), .int (u_8.2 1 0), .ref g2, .ref g3, .ref g4, .ref g5, .ref g6, .ref g7, .ref g8, .ref g9, .ref g10, .ref g11, .ref g12, .ref g13, .ref g14, .ref g15, .ref g16, .ref g17, .ref g18, .ref g19, .int (u_8.2 2 0), .int (u_8.2 3 0), .ref g22, .int (u_8.2 4 0), .ref g24, .int (u_8.2 5 0), .int (u_8.2 6 0), .int (u_8.2 7 0), .ref g28, .ref g29, .int (u_8.2 8 0), .int (u_8.2 9 0)]))]) hP hD [1] [0] rfl rfl (by decide) (by decide) hk1 hFc hP1 hD1
  generalize H1 = H at hP hS ⊢
  have hP : va_P D vwCl [(ou, .inl (C 2, 1, .inr (.inl (u_4)))), (mo, .inr (9, [.int (u_8.2 0 0), .int (u_8.2 1 0), .ref g2, .ref g3, .ref g4, .ref g5, .ref g6, .ref g7, .ref g8, .ref g9, .ref g10, .ref g11, .ref g12, .ref g13, .ref g14, .ref g15, .ref g16, .ref g17, .ref g18, .ref g19, .int (u_8.2 2 0), .int (u_8.2 3 0), .ref g22, .int (u_8.2 4 0), .ref g24, .int (u_8.2 5 0), .int (u_8.2 6 0), .int (u_8.2 7 0), .ref g28, .ref g29, .int (u_8.2 8 0), .int (u_8.2 9 0)]))] H := hP
  have hD : va_D A [(ou, .inl (C 2, 1, .inr (.inl (u_4)))), (mo, .inr (9, [.int (u_8.2 0 0), .int (u_8.2 1 0), .ref g2, .ref g3, .ref g4, .ref g5, .ref g6, .ref g7, .ref g8, .ref g9, .ref g10, .ref g11, .ref g12, .ref g13, .ref g14, .ref g15, .ref g16, .ref g17, .ref g18, .ref g19, .int (u_8.2 2 0), .int (u_8.2 3 0), .ref g22, .int (u_8.2 4 0), .ref g24, .int (u_8.2 5 0), .int (u_8.2 6 0), .int (u_8.2 7 0), .ref g28, .ref g29, .int (u_8.2 8 0), .int (u_8.2 9 0)]))] := hD
  have hq_1301 := hw
  obtain rfl : r_9 = (1 : Int32) := hw.trans hq_1295
  refine lv_iload hx hb dL_law_1304 (lv_at hl 1 rfl) ?_
  refine lv_icmp_eq (tgt := 1311) hx hb dL_law_1306 (by decide) (fun c_1306 => ?_) (fun c_1306 => ?_)
  rotate_left
  · exact absurd c_1306 (by decide)
  refine lv_iload hx hb dL_law_1311 (lv_at hl 1 rfl) ?_
  refine lv_if_ne (tgt := 1335) hx hb dL_law_1313 (by decide) (fun c_1313 => ?_) (fun c_1313 => ?_)
  rotate_left
  · exact absurd c_1313 (by decide)
  refine lv_goto (tgt := 1732) hx hb dL_law_1335 (by decide) ?_
  exact lc_end ⟨hl0, hx, hb, hr, hml, hown, ht, hX, hbl, hlocks, hK, hE, hA, hAs, hbA⟩ (by decide) (by decide) hS (lv_sub hl [2, 6] rfl)
set_option maxHeartbeats 4000000 in
set_option maxRecDepth 100000 in
theorem lc_open {p : Program} {l : Launch} {e : Env} {s : State} {m : MethodId} {below : List Frame} {meth : Method} {c : Code} {b : Nat} {xs : Nat → Int32} {D : va_G} {C : Nat → ClassId} {A : Nat → Prop} {h0 s0 de kl tl cu hk ca kx ky tx ty a0 a1 a2 a3 a4 a5 a6 a7 a8 a9 a10 a11 ou mo g2 g3 g4 g5 g6 g7 g8 g9 g10 g11 g12 g13 g14 g15 g16 g17 g18 g19 g22 g24 g28 g29 : Nat} {fo : Nat → Int64} (h : lAt p l s m meth c b 6 xs D C A) {H : Heap} {locs : List Loc} {ls : Array Slot} (hP : va_P D vwCl [(h0, .inr (5, [.ref s0, .ref de, .ref kl, .ref tl, .ref cu, .ref hk, .ref ca, .int 0, .int 0, .int (-1), .int 0, .int 0])), (kl, .inr (2, [.ref kx, .ref ky, .int 0])), (tl, .inr (4, [.ref tx, .ref ty, .int 1])), (s0, .inr (3, [.ref a0, .ref a1, .ref a2, .ref a3, .ref a4, .ref a5, .ref a6, .int 0, .ref a7, .ref a8, .ref a9, .ref a10, .ref a11, .int 0])), (ou, .inl (C 2, 1, .inr (.inl fo))), (mo, .inr (9, [.int 0, .int 0, .ref g2, .ref g3, .ref g4, .ref g5, .ref g6, .ref g7, .ref g8, .ref g9, .ref g10, .ref g11, .ref g12, .ref g13, .ref g14, .ref g15, .ref g16, .ref g17, .ref g18, .ref g19, .int 0, .int 0, .ref g22, .int 0, .ref g24, .int 0, .int 0, .int (-1), .ref g28, .ref g29, .int 0, .int 0]))] H) (hD : va_D A [(h0, .inr (5, [.ref s0, .ref de, .ref kl, .ref tl, .ref cu, .ref hk, .ref ca, .int 0, .int 0, .int (-1), .int 0, .int 0])), (kl, .inr (2, [.ref kx, .ref ky, .int 0])), (tl, .inr (4, [.ref tx, .ref ty, .int 1])), (s0, .inr (3, [.ref a0, .ref a1, .ref a2, .ref a3, .ref a4, .ref a5, .ref a6, .int 0, .ref a7, .ref a8, .ref a9, .ref a10, .ref a11, .int 0])), (ou, .inl (C 2, 1, .inr (.inl fo))), (mo, .inr (9, [.int 0, .int 0, .ref g2, .ref g3, .ref g4, .ref g5, .ref g6, .ref g7, .ref g8, .ref g9, .ref g10, .ref g11, .ref g12, .ref g13, .ref g14, .ref g15, .ref g16, .ref g17, .ref g18, .ref g19, .int 0, .int 0, .ref g22, .int 0, .ref g24, .int 0, .int 0, .int (-1), .ref g28, .ref g29, .int 0, .int 0]))]) (hS : va_S A s.heap H locs) (hl : lv_has ls 7 [(4, .int 0), (3, .ref ou), (2, .ref mo), (1, .ref h0), (0, .ref b)]) : W p l e room_1 s m #[Value.ref b] below meth c H locs 254 111937 (lw_Z below #[Value.ref b] s) (F0 m 1338 ls []) := by
  obtain ⟨hl0, hx, hb, hr, hml, hown, ht, hX, hbl, hlocks, hK, hE, hA, hAs, hbA⟩ := h
  have hAb := hAs
  refine lv_aload_n hx hb dL_law_1338 rfl (lv_at hl 3 rfl) ?_
  refine lv_aload_n hx hb dL_law_1339 rfl (lv_at hl 4 rfl) ?_
  refine lv_iload hx hb dL_law_1340 (lv_at hl 0 rfl) ?_
  refine lv_iconst (v := 1) hx hb dL_law_1342 (by decide) ?_
  refine lv_iadd hx hb dL_law_1343 ?_
  refine lv_topi (fun x_1 ex_1 => ?_)
  obtain rfl : x_1 = (1 : Int32) := ex_1.trans (by decide)
  refine va_sld hx hb hX hbl hbA hS (by unfold vp_in; decide) dL_law_1344 ?_
  refine lv_aload_n hx hb dL_law_1345 rfl (lv_at hl 1 rfl) ?_
  have hPc := hP.sub (ws' := [(h0, .inr (5, [.ref s0, .ref de, .ref kl, .ref tl, .ref cu, .ref hk, .ref ca, .int 0, .int 0, .int (-1), .int 0, .int 0])), (kl, .inr (2, [.ref kx, .ref ky, .int 0])), (tl, .inr (4, [.ref tx, .ref ty, .int 1])), (s0, .inr (3, [.ref a0, .ref a1, .ref a2, .ref a3, .ref a4, .ref a5, .ref a6, .int 0, .ref a7, .ref a8, .ref a9, .ref a10, .ref a11, .int 0])), (ou, .inl (C 2, 1, .inr (.inl fo)))]) [0, 1, 2, 3, 4] rfl
  have hDc := hD.sub (ws' := [(h0, .inr (5, [.ref s0, .ref de, .ref kl, .ref tl, .ref cu, .ref hk, .ref ca, .int 0, .int 0, .int (-1), .int 0, .int 0])), (kl, .inr (2, [.ref kx, .ref ky, .int 0])), (tl, .inr (4, [.ref tx, .ref ty, .int 1])), (s0, .inr (3, [.ref a0, .ref a1, .ref a2, .ref a3, .ref a4, .ref a5, .ref a6, .int 0, .ref a7, .ref a8, .ref a9, .ref a10, .ref a11, .int 0])), (ou, .inl (C 2, 1, .inr (.inl fo)))]) [0, 1, 2, 3, 4] (by decide) rfl
  have hFc := va_free (wc := [(h0, .inr (5, [.ref s0, .ref de, .ref kl, .ref tl, .ref cu, .ref hk, .ref ca, .int 0, .int 0, .int (-1), .int 0, .int 0])), (kl, .inr (2, [.ref kx, .ref ky, .int 0])), (tl, .inr (4, [.ref tx, .ref ty, .int 1])), (s0, .inr (3, [.ref a0, .ref a1, .ref a2, .ref a3, .ref a4, .ref a5, .ref a6, .int 0, .ref a7, .ref a8, .ref a9, .ref a10, .ref a11, .int 0])), (ou, .inl (C 2, 1, .inr (.inl fo)))]) hD hS hA [0, 1, 2, 3, 4] rfl
  refine va_calli (vx_runSW (As := [.ref h0, .int (xs (Int32.toNatClampNeg 1)), .ref ou]) (rest := []) ⟨hx, hb, hml, hown, ht⟩ (kL_open l hl0 D C s.heap.size H.size h0 s0 de kl tl cu hk ca kx ky tx ty a0 a1 a2 a3 a4 a5 a6 a7 a8 a9 a10 a11 ((xs (Int32.toNatClampNeg 1))) ou fo) (vx_cwSW 3 ht (xg_T m_635 m_636 m_558 m_484) rfl rfl rfl (by decide +kernel) ⟨Nat.le_of_ble_eq_true rfl, Nat.le_of_ble_eq_true rfl⟩) ⟨xPc_bl, xPc_at hPc hK hDc hE hS hAb⟩ rfl rfl hl.1 rfl (lv_room (Nat.le_of_ble_eq_true rfl)) dL_law_1346 ⟨(by decide), (by decide)⟩) hS (fun q _ h => hFc q h) hFc (fun r_2 u_3 t H1 locs ht1 hvm hw hB hz1 hk1 hS => ?_)
  obtain ⟨hP1, hD1⟩ := hB
  rw [ht1] at hP1
  try dsimp only at hw
  obtain ⟨hP, hD⟩ := va_join (wr := [(mo, .inr (9, [.int 0, .int 0, .ref g2, .ref g3, .ref g4, .ref g5, .ref g6, .ref g7, .ref g8, .ref g9, .ref g10, .ref g11, .ref g12, .ref g13, .ref g14, .ref g15, .ref g16, .ref g17, .ref g18, .ref g19, .int 0, .int 0, .ref g22, .int 0, .ref g24, .int 0, .int 0, .int (-1), .ref g28, .ref g29, .int 0, .int 0]))]) (w1 := [(ou, .inl (C 2, 1, .inr (.inl (u_3))))]) hP hD [0, 1, 2, 3, 4] [5] rfl rfl (by decide) (by decide) hk1 hFc hP1 hD1
  generalize H1 = H at hP hS ⊢
  have hP : va_P D vwCl [(mo, .inr (9, [.int 0, .int 0, .ref g2, .ref g3, .ref g4, .ref g5, .ref g6, .ref g7, .ref g8, .ref g9, .ref g10, .ref g11, .ref g12, .ref g13, .ref g14, .ref g15, .ref g16, .ref g17, .ref g18, .ref g19, .int 0, .int 0, .ref g22, .int 0, .ref g24, .int 0, .int 0, .int (-1), .ref g28, .ref g29, .int 0, .int 0])), (ou, .inl (C 2, 1, .inr (.inl (u_3))))] H := hP
  have hD : va_D A [(mo, .inr (9, [.int 0, .int 0, .ref g2, .ref g3, .ref g4, .ref g5, .ref g6, .ref g7, .ref g8, .ref g9, .ref g10, .ref g11, .ref g12, .ref g13, .ref g14, .ref g15, .ref g16, .ref g17, .ref g18, .ref g19, .int 0, .int 0, .ref g22, .int 0, .ref g24, .int 0, .int 0, .int (-1), .ref g28, .ref g29, .int 0, .int 0])), (ou, .inl (C 2, 1, .inr (.inl (u_3))))] := hD
  have hq_1346 := hw
  obtain rfl : r_2 = (1 : Int32) := hw
  refine W.widen (k := 257) (n := 111955) (by decide) (by decide) ?_
  refine lv_istore (lv' := [(5, .int 1), (4, .int 0), (3, .ref ou), (2, .ref mo), (1, .ref h0), (0, .ref b)]) hx hb dL_law_1349 hl (by decide) rfl (fun ls hl => ?_)
  refine lv_aload_n hx hb dL_law_1351 rfl (lv_at hl 3 rfl) ?_
  refine lv_aload_n hx hb dL_law_1352 rfl (lv_at hl 5 rfl) ?_
  refine lv_iload hx hb dL_law_1353 (lv_at hl 1 rfl) ?_
  refine lv_iconst (v := 1) hx hb dL_law_1355 (by decide) ?_
  refine lv_iadd hx hb dL_law_1356 ?_
  refine lv_topi (fun x_4 ex_4 => ?_)
  obtain rfl : x_4 = (1 : Int32) := ex_4.trans (by decide)
  refine va_sld hx hb hX hbl hbA hS (by unfold vp_in; decide) dL_law_1357 ?_
  have hPc := hP.sub (ws' := [(mo, .inr (9, [.int 0, .int 0, .ref g2, .ref g3, .ref g4, .ref g5, .ref g6, .ref g7, .ref g8, .ref g9, .ref g10, .ref g11, .ref g12, .ref g13, .ref g14, .ref g15, .ref g16, .ref g17, .ref g18, .ref g19, .int 0, .int 0, .ref g22, .int 0, .ref g24, .int 0, .int 0, .int (-1), .ref g28, .ref g29, .int 0, .int 0]))]) [0] rfl
  have hDc := hD.sub (ws' := [(mo, .inr (9, [.int 0, .int 0, .ref g2, .ref g3, .ref g4, .ref g5, .ref g6, .ref g7, .ref g8, .ref g9, .ref g10, .ref g11, .ref g12, .ref g13, .ref g14, .ref g15, .ref g16, .ref g17, .ref g18, .ref g19, .int 0, .int 0, .ref g22, .int 0, .ref g24, .int 0, .int 0, .int (-1), .ref g28, .ref g29, .int 0, .int 0]))]) [0] (by decide) rfl
  have hFc := va_free (wc := [(mo, .inr (9, [.int 0, .int 0, .ref g2, .ref g3, .ref g4, .ref g5, .ref g6, .ref g7, .ref g8, .ref g9, .ref g10, .ref g11, .ref g12, .ref g13, .ref g14, .ref g15, .ref g16, .ref g17, .ref g18, .ref g19, .int 0, .int 0, .ref g22, .int 0, .ref g24, .int 0, .int 0, .int (-1), .ref g28, .ref g29, .int 0, .int 0]))]) hD hS hA [0] rfl
  refine va_calli (vx_runVW (As := [.int (xs (Int32.toNatClampNeg 1))]) (rest := []) ⟨hx, hb, hml, hown, ht⟩ (k9p_open l D C s.heap.size H.size mo g2 g3 g4 g5 g6 g7 g8 g9 g10 g11 g12 g13 g14 g15 g16 g17 g18 g19 g22 g24 g28 g29 ((xs (Int32.toNatClampNeg 1)))) (vx_cwVW 1 ht (xg_V m_637 m_638 m_639 m_391 m_239) rfl rfl rfl (by decide +kernel) ⟨Nat.le_of_ble_eq_true rfl, Nat.le_of_ble_eq_true rfl⟩) ⟨xPc_bl, va_recv hK hPc (ci := 9) (q0 := 0) rfl rfl, xPc_at hPc hK hDc hE hS hAb⟩ rfl rfl hl.1 rfl (lv_room (Nat.le_of_ble_eq_true rfl)) dL_law_1358 ⟨(by decide), (by decide)⟩) hS (fun q _ h => hFc q h) hFc (fun r_5 u_6 t H1 locs ht1 hvm hw hB hz1 hk1 hS => ?_)
  obtain ⟨hP1, hD1⟩ := hB
  rw [ht1] at hP1
  try dsimp only at hw
  obtain ⟨hP, hD⟩ := va_join (wr := [(ou, .inl (C 2, 1, .inr (.inl (u_3))))]) (w1 := [(mo, .inr (9, [.int (u_6.2 0 0), .int (u_6.2 1 0), .ref g2, .ref g3, .ref g4, .ref g5, .ref g6, .ref g7, .ref g8, .ref g9, .ref g10, .ref g11, .ref g12, .ref g13, .ref g14, .ref g15, .ref g16, .ref g17, .ref g18, .ref g19, .int (u_6.2 2 0), .int (u_6.2 3 0), .ref g22, .int (u_6.2 4 0), .ref g24, .int (u_6.2 5 0), .int (u_6.2 6 0), .int (u_6.2 7 0), .ref g28, .ref g29, .int (u_6.2 8 0), .int (u_6.2 9 0)]))]) hP hD [0] [1] rfl rfl (by decide) (by decide) hk1 hFc hP1 hD1
  generalize H1 = H at hP hS ⊢
  have hP : va_P D vwCl [(ou, .inl (C 2, 1, .inr (.inl (u_3)))), (mo, .inr (9, [.int (u_6.2 0 0), .int (u_6.2 1 0), .ref g2, .ref g3, .ref g4, .ref g5, .ref g6, .ref g7, .ref g8, .ref g9, .ref g10, .ref g11, .ref g12, .ref g13, .ref g14, .ref g15, .ref g16, .ref g17, .ref g18, .ref g19, .int (u_6.2 2 0), .int (u_6.2 3 0), .ref g22, .int (u_6.2 4 0), .ref g24, .int (u_6.2 5 0), .int (u_6.2 6 0), .int (u_6.2 7 0), .ref g28, .ref g29, .int (u_6.2 8 0), .int (u_6.2 9 0)]))] H := hP
  have hD : va_D A [(ou, .inl (C 2, 1, .inr (.inl (u_3)))), (mo, .inr (9, [.int (u_6.2 0 0), .int (u_6.2 1 0), .ref g2, .ref g3, .ref g4, .ref g5, .ref g6, .ref g7, .ref g8, .ref g9, .ref g10, .ref g11, .ref g12, .ref g13, .ref g14, .ref g15, .ref g16, .ref g17, .ref g18, .ref g19, .int (u_6.2 2 0), .int (u_6.2 3 0), .ref g22, .int (u_6.2 4 0), .ref g24, .int (u_6.2 5 0), .int (u_6.2 6 0), .int (u_6.2 7 0), .ref g28, .ref g29, .int (u_6.2 8 0), .int (u_6.2 9 0)]))] := hD
  have hq_1358 := hw
  refine W.widen (k := 258) (n := 111962) (by decide) (by decide) ?_
  refine lv_istore (lv' := [(6, .int r_5), (5, .int 1), (4, .int 0), (3, .ref ou), (2, .ref mo), (1, .ref h0), (0, .ref b)]) hx hb dL_law_1361 hl (by decide) rfl (fun ls hl => ?_)
  refine lv_aload_n hx hb dL_law_1363 rfl (lv_at hl 4 rfl) ?_
  have hPc := hP.sub (ws' := [(mo, .inr (9, [.int (u_6.2 0 0), .int (u_6.2 1 0), .ref g2, .ref g3, .ref g4, .ref g5, .ref g6, .ref g7, .ref g8, .ref g9, .ref g10, .ref g11, .ref g12, .ref g13, .ref g14, .ref g15, .ref g16, .ref g17, .ref g18, .ref g19, .int (u_6.2 2 0), .int (u_6.2 3 0), .ref g22, .int (u_6.2 4 0), .ref g24, .int (u_6.2 5 0), .int (u_6.2 6 0), .int (u_6.2 7 0), .ref g28, .ref g29, .int (u_6.2 8 0), .int (u_6.2 9 0)]))]) [1] rfl
  have hDc := hD.sub (ws' := [(mo, .inr (9, [.int (u_6.2 0 0), .int (u_6.2 1 0), .ref g2, .ref g3, .ref g4, .ref g5, .ref g6, .ref g7, .ref g8, .ref g9, .ref g10, .ref g11, .ref g12, .ref g13, .ref g14, .ref g15, .ref g16, .ref g17, .ref g18, .ref g19, .int (u_6.2 2 0), .int (u_6.2 3 0), .ref g22, .int (u_6.2 4 0), .ref g24, .int (u_6.2 5 0), .int (u_6.2 6 0), .int (u_6.2 7 0), .ref g28, .ref g29, .int (u_6.2 8 0), .int (u_6.2 9 0)]))]) [1] (by decide) rfl
  have hFc := va_free (wc := [(mo, .inr (9, [.int (u_6.2 0 0), .int (u_6.2 1 0), .ref g2, .ref g3, .ref g4, .ref g5, .ref g6, .ref g7, .ref g8, .ref g9, .ref g10, .ref g11, .ref g12, .ref g13, .ref g14, .ref g15, .ref g16, .ref g17, .ref g18, .ref g19, .int (u_6.2 2 0), .int (u_6.2 3 0), .ref g22, .int (u_6.2 4 0), .ref g24, .int (u_6.2 5 0), .int (u_6.2 6 0), .int (u_6.2 7 0), .ref g28, .ref g29, .int (u_6.2 8 0), .int (u_6.2 9 0)]))]) hD hS hA [1] rfl
  refine va_calli (va_runV (As := []) (rest := []) ⟨hx, hb, hml, hown, ht⟩ (k9_thrown l D C s.heap.size H.size mo g2 g3 g4 g5 g6 g7 g8 g9 g10 g11 g12 g13 g14 g15 g16 g17 g18 g19 g22 g24 g28 g29 (u_6.2 0 0) (u_6.2 1 0) (u_6.2 2 0) (u_6.2 3 0) (u_6.2 4 0) (u_6.2 5 0) (u_6.2 6 0) (u_6.2 7 0) (u_6.2 8 0) (u_6.2 9 0)) (cwV 0 ht (xg_V m_562 m_563 m_564 m_391 m_221) rfl rfl rfl (by decide +kernel) ⟨Nat.le_of_ble_eq_true rfl, Nat.le_of_ble_eq_true rfl⟩) ⟨xPc_bl, va_recv hK hPc (ci := 9) (q0 := 0) rfl rfl, xPc_at hPc hK hDc hE hS hAb⟩ rfl rfl hl.1 rfl (lv_room (Nat.le_of_ble_eq_true rfl)) dL_law_1364 ⟨(by decide), (by decide)⟩) hS (fun q _ h => hFc q h) hFc (fun r_7 u_8 t H1 locs ht1 hvm hw hB hz1 hk1 hS => ?_)
  obtain ⟨hP1, hD1⟩ := hB
  rw [ht1] at hP1
  try dsimp only at hw
  obtain ⟨hP, hD⟩ := va_join (wr := [(ou, .inl (C 2, 1, .inr (.inl (u_3))))]) (w1 := [(mo, .inr (9, [.int (u_6.2 0 0), .int (u_6.2 1 0), .ref g2, .ref g3, .ref g4, .ref g5, .ref g6, .ref g7, .ref g8, .ref g9, .ref g10, .ref g11, .ref g12, .ref g13, .ref g14, .ref g15, .ref g16, .ref g17, .ref g18, .ref g19, .int (u_6.2 2 0), .int (u_6.2 3 0), .ref g22, .int (u_6.2 4 0), .ref g24, .int (u_6.2 5 0), .int (u_6.2 6 0), .int (u_6.2 7 0), .ref g28, .ref g29, .int (u_6.2 8 0), .int (u_6.2 9 0)]))]) hP hD [1] [0] rfl rfl (by decide) (by decide) hk1 hFc hP1 hD1
  generalize H1 = H at hP hS ⊢
  have hP : va_P D vwCl [(ou, .inl (C 2, 1, .inr (.inl (u_3)))), (mo, .inr (9, [.int (u_6.2 0 0), .int (u_6.2 1 0), .ref g2, .ref g3, .ref g4, .ref g5, .ref g6, .ref g7, .ref g8, .ref g9, .ref g10, .ref g11, .ref g12, .ref g13, .ref g14, .ref g15, .ref g16, .ref g17, .ref g18, .ref g19, .int (u_6.2 2 0), .int (u_6.2 3 0), .ref g22, .int (u_6.2 4 0), .ref g24, .int (u_6.2 5 0), .int (u_6.2 6 0), .int (u_6.2 7 0), .ref g28, .ref g29, .int (u_6.2 8 0), .int (u_6.2 9 0)]))] H := hP
  have hD : va_D A [(ou, .inl (C 2, 1, .inr (.inl (u_3)))), (mo, .inr (9, [.int (u_6.2 0 0), .int (u_6.2 1 0), .ref g2, .ref g3, .ref g4, .ref g5, .ref g6, .ref g7, .ref g8, .ref g9, .ref g10, .ref g11, .ref g12, .ref g13, .ref g14, .ref g15, .ref g16, .ref g17, .ref g18, .ref g19, .int (u_6.2 2 0), .int (u_6.2 3 0), .ref g22, .int (u_6.2 4 0), .ref g24, .int (u_6.2 5 0), .int (u_6.2 6 0), .int (u_6.2 7 0), .ref g28, .ref g29, .int (u_6.2 8 0), .int (u_6.2 9 0)]))] := hD
  have hq_1364 := hw
  obtain rfl : r_7 = (1 : Int32) := hw.trans hq_1358
  refine lv_iload hx hb dL_law_1367 (lv_at hl 1 rfl) ?_
  refine lv_icmp_eq (tgt := 1374) hx hb dL_law_1369 (by decide) (fun c_1369 => ?_) (fun c_1369 => ?_)
  rotate_left
  · exact absurd c_1369 (by decide)
  refine lv_iload hx hb dL_law_1374 (lv_at hl 1 rfl) ?_
  refine lv_if_ne (tgt := 1398) hx hb dL_law_1376 (by decide) (fun c_1376 => ?_) (fun c_1376 => ?_)
  rotate_left
  · exact absurd c_1376 (by decide)
  refine lv_goto (tgt := 1732) hx hb dL_law_1398 (by decide) ?_
  exact lc_end ⟨hl0, hx, hb, hr, hml, hown, ht, hX, hbl, hlocks, hK, hE, hA, hAs, hbA⟩ (by decide) (by decide) hS (lv_sub hl [2, 6] rfl)
set_option maxHeartbeats 4000000 in
set_option maxRecDepth 100000 in
theorem lc_shut {p : Program} {l : Launch} {e : Env} {s : State} {m : MethodId} {below : List Frame} {meth : Method} {c : Code} {b : Nat} {xs : Nat → Int32} {D : va_G} {C : Nat → ClassId} {A : Nat → Prop} {h0 s0 de kl tl cu hk ca kx ky tx ty a0 a1 a2 a3 a4 a5 a6 a7 a8 a9 a10 a11 ou mo g2 g3 g4 g5 g6 g7 g8 g9 g10 g11 g12 g13 g14 g15 g16 g17 g18 g19 g22 g24 g28 g29 : Nat} {fo : Nat → Int64} (h : lAt p l s m meth c b 6 xs D C A) {H : Heap} {locs : List Loc} {ls : Array Slot} (hP : va_P D vwCl [(h0, .inr (5, [.ref s0, .ref de, .ref kl, .ref tl, .ref cu, .ref hk, .ref ca, .int 0, .int 0, .int (-1), .int 0, .int 0])), (kl, .inr (2, [.ref kx, .ref ky, .int 0])), (tl, .inr (4, [.ref tx, .ref ty, .int 1])), (s0, .inr (3, [.ref a0, .ref a1, .ref a2, .ref a3, .ref a4, .ref a5, .ref a6, .int 0, .ref a7, .ref a8, .ref a9, .ref a10, .ref a11, .int 0])), (ou, .inl (C 2, 1, .inr (.inl fo))), (mo, .inr (9, [.int 0, .int 0, .ref g2, .ref g3, .ref g4, .ref g5, .ref g6, .ref g7, .ref g8, .ref g9, .ref g10, .ref g11, .ref g12, .ref g13, .ref g14, .ref g15, .ref g16, .ref g17, .ref g18, .ref g19, .int 0, .int 0, .ref g22, .int 0, .ref g24, .int 0, .int 0, .int (-1), .ref g28, .ref g29, .int 0, .int 0]))] H) (hD : va_D A [(h0, .inr (5, [.ref s0, .ref de, .ref kl, .ref tl, .ref cu, .ref hk, .ref ca, .int 0, .int 0, .int (-1), .int 0, .int 0])), (kl, .inr (2, [.ref kx, .ref ky, .int 0])), (tl, .inr (4, [.ref tx, .ref ty, .int 1])), (s0, .inr (3, [.ref a0, .ref a1, .ref a2, .ref a3, .ref a4, .ref a5, .ref a6, .int 0, .ref a7, .ref a8, .ref a9, .ref a10, .ref a11, .int 0])), (ou, .inl (C 2, 1, .inr (.inl fo))), (mo, .inr (9, [.int 0, .int 0, .ref g2, .ref g3, .ref g4, .ref g5, .ref g6, .ref g7, .ref g8, .ref g9, .ref g10, .ref g11, .ref g12, .ref g13, .ref g14, .ref g15, .ref g16, .ref g17, .ref g18, .ref g19, .int 0, .int 0, .ref g22, .int 0, .ref g24, .int 0, .int 0, .int (-1), .ref g28, .ref g29, .int 0, .int 0]))]) (hS : va_S A s.heap H locs) (hl : lv_has ls 7 [(4, .int 0), (3, .ref ou), (2, .ref mo), (1, .ref h0), (0, .ref b)]) : W p l e room_1 s m #[Value.ref b] below meth c H locs 254 111937 (lw_Z below #[Value.ref b] s) (F0 m 1401 ls []) := by
  obtain ⟨hl0, hx, hb, hr, hml, hown, ht, hX, hbl, hlocks, hK, hE, hA, hAs, hbA⟩ := h
  have hAb := hAs
  refine lv_aload_n hx hb dL_law_1401 rfl (lv_at hl 3 rfl) ?_
  refine lv_aload_n hx hb dL_law_1402 rfl (lv_at hl 4 rfl) ?_
  refine lv_iload hx hb dL_law_1403 (lv_at hl 0 rfl) ?_
  refine lv_iconst (v := 1) hx hb dL_law_1405 (by decide) ?_
  refine lv_iadd hx hb dL_law_1406 ?_
  refine lv_topi (fun x_1 ex_1 => ?_)
  obtain rfl : x_1 = (1 : Int32) := ex_1.trans (by decide)
  refine va_sld hx hb hX hbl hbA hS (by unfold vp_in; decide) dL_law_1407 ?_
  refine lv_aload_n hx hb dL_law_1408 rfl (lv_at hl 1 rfl) ?_
  have hPc := hP.sub (ws' := [(h0, .inr (5, [.ref s0, .ref de, .ref kl, .ref tl, .ref cu, .ref hk, .ref ca, .int 0, .int 0, .int (-1), .int 0, .int 0])), (kl, .inr (2, [.ref kx, .ref ky, .int 0])), (tl, .inr (4, [.ref tx, .ref ty, .int 1])), (s0, .inr (3, [.ref a0, .ref a1, .ref a2, .ref a3, .ref a4, .ref a5, .ref a6, .int 0, .ref a7, .ref a8, .ref a9, .ref a10, .ref a11, .int 0])), (ou, .inl (C 2, 1, .inr (.inl fo)))]) [0, 1, 2, 3, 4] rfl
  have hDc := hD.sub (ws' := [(h0, .inr (5, [.ref s0, .ref de, .ref kl, .ref tl, .ref cu, .ref hk, .ref ca, .int 0, .int 0, .int (-1), .int 0, .int 0])), (kl, .inr (2, [.ref kx, .ref ky, .int 0])), (tl, .inr (4, [.ref tx, .ref ty, .int 1])), (s0, .inr (3, [.ref a0, .ref a1, .ref a2, .ref a3, .ref a4, .ref a5, .ref a6, .int 0, .ref a7, .ref a8, .ref a9, .ref a10, .ref a11, .int 0])), (ou, .inl (C 2, 1, .inr (.inl fo)))]) [0, 1, 2, 3, 4] (by decide) rfl
  have hFc := va_free (wc := [(h0, .inr (5, [.ref s0, .ref de, .ref kl, .ref tl, .ref cu, .ref hk, .ref ca, .int 0, .int 0, .int (-1), .int 0, .int 0])), (kl, .inr (2, [.ref kx, .ref ky, .int 0])), (tl, .inr (4, [.ref tx, .ref ty, .int 1])), (s0, .inr (3, [.ref a0, .ref a1, .ref a2, .ref a3, .ref a4, .ref a5, .ref a6, .int 0, .ref a7, .ref a8, .ref a9, .ref a10, .ref a11, .int 0])), (ou, .inl (C 2, 1, .inr (.inl fo)))]) hD hS hA [0, 1, 2, 3, 4] rfl
  refine va_calli (vx_runSW (As := [.ref h0, .int (xs (Int32.toNatClampNeg 1)), .ref ou]) (rest := []) ⟨hx, hb, hml, hown, ht⟩ (kL_shut l hl0 D C s.heap.size H.size h0 s0 de kl tl cu hk ca kx ky tx ty a0 a1 a2 a3 a4 a5 a6 a7 a8 a9 a10 a11 ((xs (Int32.toNatClampNeg 1))) ou fo) (vx_cwSW 3 ht (xg_T m_640 m_641 m_558 m_485) rfl rfl rfl (by decide +kernel) ⟨Nat.le_of_ble_eq_true rfl, Nat.le_of_ble_eq_true rfl⟩) ⟨xPc_bl, xPc_at hPc hK hDc hE hS hAb⟩ rfl rfl hl.1 rfl (lv_room (Nat.le_of_ble_eq_true rfl)) dL_law_1409 ⟨(by decide), (by decide)⟩) hS (fun q _ h => hFc q h) hFc (fun r_2 u_3 t H1 locs ht1 hvm hw hB hz1 hk1 hS => ?_)
  obtain ⟨hP1, hD1⟩ := hB
  rw [ht1] at hP1
  try dsimp only at hw
  obtain ⟨hP, hD⟩ := va_join (wr := [(mo, .inr (9, [.int 0, .int 0, .ref g2, .ref g3, .ref g4, .ref g5, .ref g6, .ref g7, .ref g8, .ref g9, .ref g10, .ref g11, .ref g12, .ref g13, .ref g14, .ref g15, .ref g16, .ref g17, .ref g18, .ref g19, .int 0, .int 0, .ref g22, .int 0, .ref g24, .int 0, .int 0, .int (-1), .ref g28, .ref g29, .int 0, .int 0]))]) (w1 := [(ou, .inl (C 2, 1, .inr (.inl (u_3))))]) hP hD [0, 1, 2, 3, 4] [5] rfl rfl (by decide) (by decide) hk1 hFc hP1 hD1
  generalize H1 = H at hP hS ⊢
  have hP : va_P D vwCl [(mo, .inr (9, [.int 0, .int 0, .ref g2, .ref g3, .ref g4, .ref g5, .ref g6, .ref g7, .ref g8, .ref g9, .ref g10, .ref g11, .ref g12, .ref g13, .ref g14, .ref g15, .ref g16, .ref g17, .ref g18, .ref g19, .int 0, .int 0, .ref g22, .int 0, .ref g24, .int 0, .int 0, .int (-1), .ref g28, .ref g29, .int 0, .int 0])), (ou, .inl (C 2, 1, .inr (.inl (u_3))))] H := hP
  have hD : va_D A [(mo, .inr (9, [.int 0, .int 0, .ref g2, .ref g3, .ref g4, .ref g5, .ref g6, .ref g7, .ref g8, .ref g9, .ref g10, .ref g11, .ref g12, .ref g13, .ref g14, .ref g15, .ref g16, .ref g17, .ref g18, .ref g19, .int 0, .int 0, .ref g22, .int 0, .ref g24, .int 0, .int 0, .int (-1), .ref g28, .ref g29, .int 0, .int 0])), (ou, .inl (C 2, 1, .inr (.inl (u_3))))] := hD
  have hq_1409 := hw
  obtain rfl : r_2 = (1 : Int32) := hw
  refine W.widen (k := 257) (n := 111955) (by decide) (by decide) ?_
  refine lv_istore (lv' := [(5, .int 1), (4, .int 0), (3, .ref ou), (2, .ref mo), (1, .ref h0), (0, .ref b)]) hx hb dL_law_1412 hl (by decide) rfl (fun ls hl => ?_)
  refine lv_aload_n hx hb dL_law_1414 rfl (lv_at hl 3 rfl) ?_
  refine lv_aload_n hx hb dL_law_1415 rfl (lv_at hl 5 rfl) ?_
  refine lv_iload hx hb dL_law_1416 (lv_at hl 1 rfl) ?_
  refine lv_iconst (v := 1) hx hb dL_law_1418 (by decide) ?_
  refine lv_iadd hx hb dL_law_1419 ?_
  refine lv_topi (fun x_4 ex_4 => ?_)
  obtain rfl : x_4 = (1 : Int32) := ex_4.trans (by decide)
  refine va_sld hx hb hX hbl hbA hS (by unfold vp_in; decide) dL_law_1420 ?_
  have hPc := hP.sub (ws' := [(mo, .inr (9, [.int 0, .int 0, .ref g2, .ref g3, .ref g4, .ref g5, .ref g6, .ref g7, .ref g8, .ref g9, .ref g10, .ref g11, .ref g12, .ref g13, .ref g14, .ref g15, .ref g16, .ref g17, .ref g18, .ref g19, .int 0, .int 0, .ref g22, .int 0, .ref g24, .int 0, .int 0, .int (-1), .ref g28, .ref g29, .int 0, .int 0]))]) [0] rfl
  have hDc := hD.sub (ws' := [(mo, .inr (9, [.int 0, .int 0, .ref g2, .ref g3, .ref g4, .ref g5, .ref g6, .ref g7, .ref g8, .ref g9, .ref g10, .ref g11, .ref g12, .ref g13, .ref g14, .ref g15, .ref g16, .ref g17, .ref g18, .ref g19, .int 0, .int 0, .ref g22, .int 0, .ref g24, .int 0, .int 0, .int (-1), .ref g28, .ref g29, .int 0, .int 0]))]) [0] (by decide) rfl
  have hFc := va_free (wc := [(mo, .inr (9, [.int 0, .int 0, .ref g2, .ref g3, .ref g4, .ref g5, .ref g6, .ref g7, .ref g8, .ref g9, .ref g10, .ref g11, .ref g12, .ref g13, .ref g14, .ref g15, .ref g16, .ref g17, .ref g18, .ref g19, .int 0, .int 0, .ref g22, .int 0, .ref g24, .int 0, .int 0, .int (-1), .ref g28, .ref g29, .int 0, .int 0]))]) hD hS hA [0] rfl
  refine va_calli (vx_runVW (As := [.int (xs (Int32.toNatClampNeg 1))]) (rest := []) ⟨hx, hb, hml, hown, ht⟩ (k9p_shut l D C s.heap.size H.size mo g2 g3 g4 g5 g6 g7 g8 g9 g10 g11 g12 g13 g14 g15 g16 g17 g18 g19 g22 g24 g28 g29 ((xs (Int32.toNatClampNeg 1)))) (vx_cwVW 1 ht (xg_V m_642 m_643 m_644 m_391 m_240) rfl rfl rfl (by decide +kernel) ⟨Nat.le_of_ble_eq_true rfl, Nat.le_of_ble_eq_true rfl⟩) ⟨xPc_bl, va_recv hK hPc (ci := 9) (q0 := 0) rfl rfl, xPc_at hPc hK hDc hE hS hAb⟩ rfl rfl hl.1 rfl (lv_room (Nat.le_of_ble_eq_true rfl)) dL_law_1421 ⟨(by decide), (by decide)⟩) hS (fun q _ h => hFc q h) hFc (fun r_5 u_6 t H1 locs ht1 hvm hw hB hz1 hk1 hS => ?_)
  obtain ⟨hP1, hD1⟩ := hB
  rw [ht1] at hP1
  try dsimp only at hw
  obtain ⟨hP, hD⟩ := va_join (wr := [(ou, .inl (C 2, 1, .inr (.inl (u_3))))]) (w1 := [(mo, .inr (9, [.int (u_6.2 0 0), .int (u_6.2 1 0), .ref g2, .ref g3, .ref g4, .ref g5, .ref g6, .ref g7, .ref g8, .ref g9, .ref g10, .ref g11, .ref g12, .ref g13, .ref g14, .ref g15, .ref g16, .ref g17, .ref g18, .ref g19, .int (u_6.2 2 0), .int (u_6.2 3 0), .ref g22, .int (u_6.2 4 0), .ref g24, .int (u_6.2 5 0), .int (u_6.2 6 0), .int (u_6.2 7 0), .ref g28, .ref g29, .int (u_6.2 8 0), .int (u_6.2 9 0)]))]) hP hD [0] [1] rfl rfl (by decide) (by decide) hk1 hFc hP1 hD1
  generalize H1 = H at hP hS ⊢
  have hP : va_P D vwCl [(ou, .inl (C 2, 1, .inr (.inl (u_3)))), (mo, .inr (9, [.int (u_6.2 0 0), .int (u_6.2 1 0), .ref g2, .ref g3, .ref g4, .ref g5, .ref g6, .ref g7, .ref g8, .ref g9, .ref g10, .ref g11, .ref g12, .ref g13, .ref g14, .ref g15, .ref g16, .ref g17, .ref g18, .ref g19, .int (u_6.2 2 0), .int (u_6.2 3 0), .ref g22, .int (u_6.2 4 0), .ref g24, .int (u_6.2 5 0), .int (u_6.2 6 0), .int (u_6.2 7 0), .ref g28, .ref g29, .int (u_6.2 8 0), .int (u_6.2 9 0)]))] H := hP
  have hD : va_D A [(ou, .inl (C 2, 1, .inr (.inl (u_3)))), (mo, .inr (9, [.int (u_6.2 0 0), .int (u_6.2 1 0), .ref g2, .ref g3, .ref g4, .ref g5, .ref g6, .ref g7, .ref g8, .ref g9, .ref g10, .ref g11, .ref g12, .ref g13, .ref g14, .ref g15, .ref g16, .ref g17, .ref g18, .ref g19, .int (u_6.2 2 0), .int (u_6.2 3 0), .ref g22, .int (u_6.2 4 0), .ref g24, .int (u_6.2 5 0), .int (u_6.2 6 0), .int (u_6.2 7 0), .ref g28, .ref g29, .int (u_6.2 8 0), .int (u_6.2 9 0)]))] := hD
  have hq_1421 := hw
  refine W.widen (k := 258) (n := 111962) (by decide) (by decide) ?_
  refine lv_istore (lv' := [(6, .int r_5), (5, .int 1), (4, .int 0), (3, .ref ou), (2, .ref mo), (1, .ref h0), (0, .ref b)]) hx hb dL_law_1424 hl (by decide) rfl (fun ls hl => ?_)
  refine lv_aload_n hx hb dL_law_1426 rfl (lv_at hl 4 rfl) ?_
  have hPc := hP.sub (ws' := [(mo, .inr (9, [.int (u_6.2 0 0), .int (u_6.2 1 0), .ref g2, .ref g3, .ref g4, .ref g5, .ref g6, .ref g7, .ref g8, .ref g9, .ref g10, .ref g11, .ref g12, .ref g13, .ref g14, .ref g15, .ref g16, .ref g17, .ref g18, .ref g19, .int (u_6.2 2 0), .int (u_6.2 3 0), .ref g22, .int (u_6.2 4 0), .ref g24, .int (u_6.2 5 0), .int (u_6.2 6 0), .int (u_6.2 7 0), .ref g28, .ref g29, .int (u_6.2 8 0), .int (u_6.2 9 0)]))]) [1] rfl
  have hDc := hD.sub (ws' := [(mo, .inr (9, [.int (u_6.2 0 0), .int (u_6.2 1 0), .ref g2, .ref g3, .ref g4, .ref g5, .ref g6, .ref g7, .ref g8, .ref g9, .ref g10, .ref g11, .ref g12, .ref g13, .ref g14, .ref g15, .ref g16, .ref g17, .ref g18, .ref g19, .int (u_6.2 2 0), .int (u_6.2 3 0), .ref g22, .int (u_6.2 4 0), .ref g24, .int (u_6.2 5 0), .int (u_6.2 6 0), .int (u_6.2 7 0), .ref g28, .ref g29, .int (u_6.2 8 0), .int (u_6.2 9 0)]))]) [1] (by decide) rfl
  have hFc := va_free (wc := [(mo, .inr (9, [.int (u_6.2 0 0), .int (u_6.2 1 0), .ref g2, .ref g3, .ref g4, .ref g5, .ref g6, .ref g7, .ref g8, .ref g9, .ref g10, .ref g11, .ref g12, .ref g13, .ref g14, .ref g15, .ref g16, .ref g17, .ref g18, .ref g19, .int (u_6.2 2 0), .int (u_6.2 3 0), .ref g22, .int (u_6.2 4 0), .ref g24, .int (u_6.2 5 0), .int (u_6.2 6 0), .int (u_6.2 7 0), .ref g28, .ref g29, .int (u_6.2 8 0), .int (u_6.2 9 0)]))]) hD hS hA [1] rfl
  refine va_calli (va_runV (As := []) (rest := []) ⟨hx, hb, hml, hown, ht⟩ (k9_thrown l D C s.heap.size H.size mo g2 g3 g4 g5 g6 g7 g8 g9 g10 g11 g12 g13 g14 g15 g16 g17 g18 g19 g22 g24 g28 g29 (u_6.2 0 0) (u_6.2 1 0) (u_6.2 2 0) (u_6.2 3 0) (u_6.2 4 0) (u_6.2 5 0) (u_6.2 6 0) (u_6.2 7 0) (u_6.2 8 0) (u_6.2 9 0)) (cwV 0 ht (xg_V m_562 m_563 m_564 m_391 m_221) rfl rfl rfl (by decide +kernel) ⟨Nat.le_of_ble_eq_true rfl, Nat.le_of_ble_eq_true rfl⟩) ⟨xPc_bl, va_recv hK hPc (ci := 9) (q0 := 0) rfl rfl, xPc_at hPc hK hDc hE hS hAb⟩ rfl rfl hl.1 rfl (lv_room (Nat.le_of_ble_eq_true rfl)) dL_law_1427 ⟨(by decide), (by decide)⟩) hS (fun q _ h => hFc q h) hFc (fun r_7 u_8 t H1 locs ht1 hvm hw hB hz1 hk1 hS => ?_)
  obtain ⟨hP1, hD1⟩ := hB
  rw [ht1] at hP1
  try dsimp only at hw
  obtain ⟨hP, hD⟩ := va_join (wr := [(ou, .inl (C 2, 1, .inr (.inl (u_3))))]) (w1 := [(mo, .inr (9, [.int (u_6.2 0 0), .int (u_6.2 1 0), .ref g2, .ref g3, .ref g4, .ref g5, .ref g6, .ref g7, .ref g8, .ref g9, .ref g10, .ref g11, .ref g12, .ref g13, .ref g14, .ref g15, .ref g16, .ref g17, .ref g18, .ref g19, .int (u_6.2 2 0), .int (u_6.2 3 0), .ref g22, .int (u_6.2 4 0), .ref g24, .int (u_6.2 5 0), .int (u_6.2 6 0), .int (u_6.2 7 0), .ref g28, .ref g29, .int (u_6.2 8 0), .int (u_6.2 9 0)]))]) hP hD [1] [0] rfl rfl (by decide) (by decide) hk1 hFc hP1 hD1
  generalize H1 = H at hP hS ⊢
  have hP : va_P D vwCl [(ou, .inl (C 2, 1, .inr (.inl (u_3)))), (mo, .inr (9, [.int (u_6.2 0 0), .int (u_6.2 1 0), .ref g2, .ref g3, .ref g4, .ref g5, .ref g6, .ref g7, .ref g8, .ref g9, .ref g10, .ref g11, .ref g12, .ref g13, .ref g14, .ref g15, .ref g16, .ref g17, .ref g18, .ref g19, .int (u_6.2 2 0), .int (u_6.2 3 0), .ref g22, .int (u_6.2 4 0), .ref g24, .int (u_6.2 5 0), .int (u_6.2 6 0), .int (u_6.2 7 0), .ref g28, .ref g29, .int (u_6.2 8 0), .int (u_6.2 9 0)]))] H := hP
  have hD : va_D A [(ou, .inl (C 2, 1, .inr (.inl (u_3)))), (mo, .inr (9, [.int (u_6.2 0 0), .int (u_6.2 1 0), .ref g2, .ref g3, .ref g4, .ref g5, .ref g6, .ref g7, .ref g8, .ref g9, .ref g10, .ref g11, .ref g12, .ref g13, .ref g14, .ref g15, .ref g16, .ref g17, .ref g18, .ref g19, .int (u_6.2 2 0), .int (u_6.2 3 0), .ref g22, .int (u_6.2 4 0), .ref g24, .int (u_6.2 5 0), .int (u_6.2 6 0), .int (u_6.2 7 0), .ref g28, .ref g29, .int (u_6.2 8 0), .int (u_6.2 9 0)]))] := hD
  have hq_1427 := hw
  obtain rfl : r_7 = (1 : Int32) := hw.trans hq_1421
  refine lv_iload hx hb dL_law_1430 (lv_at hl 1 rfl) ?_
  refine lv_icmp_eq (tgt := 1437) hx hb dL_law_1432 (by decide) (fun c_1432 => ?_) (fun c_1432 => ?_)
  rotate_left
  · exact absurd c_1432 (by decide)
  refine lv_iload hx hb dL_law_1437 (lv_at hl 1 rfl) ?_
  refine lv_if_ne (tgt := 1461) hx hb dL_law_1439 (by decide) (fun c_1439 => ?_) (fun c_1439 => ?_)
  rotate_left
  · exact absurd c_1439 (by decide)
  refine lv_goto (tgt := 1732) hx hb dL_law_1461 (by decide) ?_
  exact lc_end ⟨hl0, hx, hb, hr, hml, hown, ht, hX, hbl, hlocks, hK, hE, hA, hAs, hbA⟩ (by decide) (by decide) hS (lv_sub hl [2, 6] rfl)
set_option maxHeartbeats 4000000 in
set_option maxRecDepth 100000 in
theorem lc_level {p : Program} {l : Launch} {e : Env} {s : State} {m : MethodId} {below : List Frame} {meth : Method} {c : Code} {b : Nat} {xs : Nat → Int32} {D : va_G} {C : Nat → ClassId} {A : Nat → Prop} {h0 s0 de kl tl cu hk ca kx ky tx ty a0 a1 a2 a3 a4 a5 a6 a7 a8 a9 a10 a11 ou mo g2 g3 g4 g5 g6 g7 g8 g9 g10 g11 g12 g13 g14 g15 g16 g17 g18 g19 g22 g24 g28 g29 : Nat} {fo : Nat → Int64} (h : lAt p l s m meth c b 6 xs D C A) {H : Heap} {locs : List Loc} {ls : Array Slot} (hP : va_P D vwCl [(h0, .inr (5, [.ref s0, .ref de, .ref kl, .ref tl, .ref cu, .ref hk, .ref ca, .int 0, .int 0, .int (-1), .int 0, .int 0])), (kl, .inr (2, [.ref kx, .ref ky, .int 0])), (tl, .inr (4, [.ref tx, .ref ty, .int 1])), (s0, .inr (3, [.ref a0, .ref a1, .ref a2, .ref a3, .ref a4, .ref a5, .ref a6, .int 0, .ref a7, .ref a8, .ref a9, .ref a10, .ref a11, .int 0])), (ou, .inl (C 2, 1, .inr (.inl fo))), (mo, .inr (9, [.int 0, .int 0, .ref g2, .ref g3, .ref g4, .ref g5, .ref g6, .ref g7, .ref g8, .ref g9, .ref g10, .ref g11, .ref g12, .ref g13, .ref g14, .ref g15, .ref g16, .ref g17, .ref g18, .ref g19, .int 0, .int 0, .ref g22, .int 0, .ref g24, .int 0, .int 0, .int (-1), .ref g28, .ref g29, .int 0, .int 0]))] H) (hD : va_D A [(h0, .inr (5, [.ref s0, .ref de, .ref kl, .ref tl, .ref cu, .ref hk, .ref ca, .int 0, .int 0, .int (-1), .int 0, .int 0])), (kl, .inr (2, [.ref kx, .ref ky, .int 0])), (tl, .inr (4, [.ref tx, .ref ty, .int 1])), (s0, .inr (3, [.ref a0, .ref a1, .ref a2, .ref a3, .ref a4, .ref a5, .ref a6, .int 0, .ref a7, .ref a8, .ref a9, .ref a10, .ref a11, .int 0])), (ou, .inl (C 2, 1, .inr (.inl fo))), (mo, .inr (9, [.int 0, .int 0, .ref g2, .ref g3, .ref g4, .ref g5, .ref g6, .ref g7, .ref g8, .ref g9, .ref g10, .ref g11, .ref g12, .ref g13, .ref g14, .ref g15, .ref g16, .ref g17, .ref g18, .ref g19, .int 0, .int 0, .ref g22, .int 0, .ref g24, .int 0, .int 0, .int (-1), .ref g28, .ref g29, .int 0, .int 0]))]) (hS : va_S A s.heap H locs) (hl : lv_has ls 7 [(4, .int 0), (3, .ref ou), (2, .ref mo), (1, .ref h0), (0, .ref b)]) : W p l e room_1 s m #[Value.ref b] below meth c H locs 254 111937 (lw_Z below #[Value.ref b] s) (F0 m 1464 ls []) := by
  obtain ⟨hl0, hx, hb, hr, hml, hown, ht, hX, hbl, hlocks, hK, hE, hA, hAs, hbA⟩ := h
  have hAb := hAs
  refine lv_aload_n hx hb dL_law_1464 rfl (lv_at hl 3 rfl) ?_
  refine lv_aload_n hx hb dL_law_1465 rfl (lv_at hl 4 rfl) ?_
  refine lv_iload hx hb dL_law_1466 (lv_at hl 0 rfl) ?_
  refine lv_iconst (v := 1) hx hb dL_law_1468 (by decide) ?_
  refine lv_iadd hx hb dL_law_1469 ?_
  refine lv_topi (fun x_1 ex_1 => ?_)
  obtain rfl : x_1 = (1 : Int32) := ex_1.trans (by decide)
  refine va_sld hx hb hX hbl hbA hS (by unfold vp_in; decide) dL_law_1470 ?_
  refine lv_aload_n hx hb dL_law_1471 rfl (lv_at hl 4 rfl) ?_
  refine lv_iload hx hb dL_law_1472 (lv_at hl 0 rfl) ?_
  refine lv_iconst (v := 2) hx hb dL_law_1474 (by decide) ?_
  refine lv_iadd hx hb dL_law_1475 ?_
  refine lv_topi (fun x_2 ex_2 => ?_)
  obtain rfl : x_2 = (2 : Int32) := ex_2.trans (by decide)
  refine va_sld hx hb hX hbl hbA hS (by unfold vp_in; decide) dL_law_1476 ?_
  refine lv_if_eq (tgt := 1484) hx hb dL_law_1477 (by decide) (fun c_1477 => ?_) (fun c_1477 => ?_)
  · skip
    refine lv_iconst (v := 0) hx hb dL_law_1484 (by decide) ?_
    refine lv_aload_n hx hb dL_law_1485 rfl (lv_at hl 4 rfl) ?_
    refine lv_iload hx hb dL_law_1486 (lv_at hl 0 rfl) ?_
    refine lv_iconst (v := 3) hx hb dL_law_1488 (by decide) ?_
    refine lv_iadd hx hb dL_law_1489 ?_
    refine lv_topi (fun x_3 ex_3 => ?_)
    obtain rfl : x_3 = (3 : Int32) := ex_3.trans (by decide)
    refine va_sld hx hb hX hbl hbA hS (by unfold vp_in; decide) dL_law_1490 ?_
    refine lv_if_eq (tgt := 1498) hx hb dL_law_1491 (by decide) (fun c_1491 => ?_) (fun c_1491 => ?_)
    · skip
      refine lv_iconst (v := 0) hx hb dL_law_1498 (by decide) ?_
      refine lv_aload_n hx hb dL_law_1499 rfl (lv_at hl 1 rfl) ?_
      have hPc := hP.sub (ws' := [(h0, .inr (5, [.ref s0, .ref de, .ref kl, .ref tl, .ref cu, .ref hk, .ref ca, .int 0, .int 0, .int (-1), .int 0, .int 0])), (kl, .inr (2, [.ref kx, .ref ky, .int 0])), (tl, .inr (4, [.ref tx, .ref ty, .int 1])), (s0, .inr (3, [.ref a0, .ref a1, .ref a2, .ref a3, .ref a4, .ref a5, .ref a6, .int 0, .ref a7, .ref a8, .ref a9, .ref a10, .ref a11, .int 0])), (ou, .inl (C 2, 1, .inr (.inl fo)))]) [0, 1, 2, 3, 4] rfl
      have hDc := hD.sub (ws' := [(h0, .inr (5, [.ref s0, .ref de, .ref kl, .ref tl, .ref cu, .ref hk, .ref ca, .int 0, .int 0, .int (-1), .int 0, .int 0])), (kl, .inr (2, [.ref kx, .ref ky, .int 0])), (tl, .inr (4, [.ref tx, .ref ty, .int 1])), (s0, .inr (3, [.ref a0, .ref a1, .ref a2, .ref a3, .ref a4, .ref a5, .ref a6, .int 0, .ref a7, .ref a8, .ref a9, .ref a10, .ref a11, .int 0])), (ou, .inl (C 2, 1, .inr (.inl fo)))]) [0, 1, 2, 3, 4] (by decide) rfl
      have hFc := va_free (wc := [(h0, .inr (5, [.ref s0, .ref de, .ref kl, .ref tl, .ref cu, .ref hk, .ref ca, .int 0, .int 0, .int (-1), .int 0, .int 0])), (kl, .inr (2, [.ref kx, .ref ky, .int 0])), (tl, .inr (4, [.ref tx, .ref ty, .int 1])), (s0, .inr (3, [.ref a0, .ref a1, .ref a2, .ref a3, .ref a4, .ref a5, .ref a6, .int 0, .ref a7, .ref a8, .ref a9, .ref a10, .ref a11, .int 0])), (ou, .inl (C 2, 1, .inr (.inl fo)))]) hD hS hA [0, 1, 2, 3, 4] rfl
      refine va_calli (vx_runSW (As := [.ref h0, .int (xs (Int32.toNatClampNeg 1)), .int 0, .int 0, .ref ou]) (rest := []) ⟨hx, hb, hml, hown, ht⟩ (kL_level l hl0 D C s.heap.size H.size h0 s0 de kl tl cu hk ca kx ky tx ty a0 a1 a2 a3 a4 a5 a6 a7 a8 a9 a10 a11 ((xs (Int32.toNatClampNeg 1))) 0 0 ou fo) (vx_cwSW 5 ht (xg_T m_645 m_646 m_558 m_486) rfl rfl rfl (by decide +kernel) ⟨Nat.le_of_ble_eq_true rfl, Nat.le_of_ble_eq_true rfl⟩) ⟨xPc_bl, xPc_at hPc hK hDc hE hS hAb⟩ rfl rfl hl.1 rfl (lv_room (Nat.le_of_ble_eq_true rfl)) dL_law_1500 ⟨(by decide), (by decide)⟩) hS (fun q _ h => hFc q h) hFc (fun r_4 u_5 t H1 locs ht1 hvm hw hB hz1 hk1 hS => ?_)
      obtain ⟨hP1, hD1⟩ := hB
      rw [ht1] at hP1
      try dsimp only at hw
      obtain ⟨hP, hD⟩ := va_join (wr := [(mo, .inr (9, [.int 0, .int 0, .ref g2, .ref g3, .ref g4, .ref g5, .ref g6, .ref g7, .ref g8, .ref g9, .ref g10, .ref g11, .ref g12, .ref g13, .ref g14, .ref g15, .ref g16, .ref g17, .ref g18, .ref g19, .int 0, .int 0, .ref g22, .int 0, .ref g24, .int 0, .int 0, .int (-1), .ref g28, .ref g29, .int 0, .int 0]))]) (w1 := [(ou, .inl (C 2, 1, .inr (.inl (u_5))))]) hP hD [0, 1, 2, 3, 4] [5] rfl rfl (by decide) (by decide) hk1 hFc hP1 hD1
      generalize H1 = H at hP hS ⊢
      have hP : va_P D vwCl [(mo, .inr (9, [.int 0, .int 0, .ref g2, .ref g3, .ref g4, .ref g5, .ref g6, .ref g7, .ref g8, .ref g9, .ref g10, .ref g11, .ref g12, .ref g13, .ref g14, .ref g15, .ref g16, .ref g17, .ref g18, .ref g19, .int 0, .int 0, .ref g22, .int 0, .ref g24, .int 0, .int 0, .int (-1), .ref g28, .ref g29, .int 0, .int 0])), (ou, .inl (C 2, 1, .inr (.inl (u_5))))] H := hP
      have hD : va_D A [(mo, .inr (9, [.int 0, .int 0, .ref g2, .ref g3, .ref g4, .ref g5, .ref g6, .ref g7, .ref g8, .ref g9, .ref g10, .ref g11, .ref g12, .ref g13, .ref g14, .ref g15, .ref g16, .ref g17, .ref g18, .ref g19, .int 0, .int 0, .ref g22, .int 0, .ref g24, .int 0, .int 0, .int (-1), .ref g28, .ref g29, .int 0, .int 0])), (ou, .inl (C 2, 1, .inr (.inl (u_5))))] := hD
      have hq_1500 := hw
      obtain rfl : r_4 = (1 : Int32) := hw
      refine W.widen (k := 257) (n := 111955) (by decide) (by decide) ?_
      refine lv_istore (lv' := [(5, .int 1), (4, .int 0), (3, .ref ou), (2, .ref mo), (1, .ref h0), (0, .ref b)]) hx hb dL_law_1503 hl (by decide) rfl (fun ls hl => ?_)
      refine lv_aload_n hx hb dL_law_1505 rfl (lv_at hl 3 rfl) ?_
      refine lv_aload_n hx hb dL_law_1506 rfl (lv_at hl 5 rfl) ?_
      refine lv_iload hx hb dL_law_1507 (lv_at hl 1 rfl) ?_
      refine lv_iconst (v := 1) hx hb dL_law_1509 (by decide) ?_
      refine lv_iadd hx hb dL_law_1510 ?_
      refine lv_topi (fun x_6 ex_6 => ?_)
      obtain rfl : x_6 = (1 : Int32) := ex_6.trans (by decide)
      refine va_sld hx hb hX hbl hbA hS (by unfold vp_in; decide) dL_law_1511 ?_
      refine lv_aload_n hx hb dL_law_1512 rfl (lv_at hl 5 rfl) ?_
      refine lv_iload hx hb dL_law_1513 (lv_at hl 1 rfl) ?_
      refine lv_iconst (v := 2) hx hb dL_law_1515 (by decide) ?_
      refine lv_iadd hx hb dL_law_1516 ?_
      refine lv_topi (fun x_7 ex_7 => ?_)
      obtain rfl : x_7 = (2 : Int32) := ex_7.trans (by decide)
      refine va_sld hx hb hX hbl hbA hS (by unfold vp_in; decide) dL_law_1517 ?_
      refine lv_if_eq (tgt := 1525) hx hb dL_law_1518 (by decide) (fun c_1518 => ?_) (fun c_1518 => ?_)
      · skip
        refine lv_iconst (v := 0) hx hb dL_law_1525 (by decide) ?_
        refine lv_aload_n hx hb dL_law_1526 rfl (lv_at hl 5 rfl) ?_
        refine lv_iload hx hb dL_law_1527 (lv_at hl 1 rfl) ?_
        refine lv_iconst (v := 3) hx hb dL_law_1529 (by decide) ?_
        refine lv_iadd hx hb dL_law_1530 ?_
        refine lv_topi (fun x_8 ex_8 => ?_)
        obtain rfl : x_8 = (3 : Int32) := ex_8.trans (by decide)
        refine va_sld hx hb hX hbl hbA hS (by unfold vp_in; decide) dL_law_1531 ?_
        refine lv_if_eq (tgt := 1539) hx hb dL_law_1532 (by decide) (fun c_1532 => ?_) (fun c_1532 => ?_)
        · skip
          refine lv_iconst (v := 0) hx hb dL_law_1539 (by decide) ?_
          have hPc := hP.sub (ws' := [(mo, .inr (9, [.int 0, .int 0, .ref g2, .ref g3, .ref g4, .ref g5, .ref g6, .ref g7, .ref g8, .ref g9, .ref g10, .ref g11, .ref g12, .ref g13, .ref g14, .ref g15, .ref g16, .ref g17, .ref g18, .ref g19, .int 0, .int 0, .ref g22, .int 0, .ref g24, .int 0, .int 0, .int (-1), .ref g28, .ref g29, .int 0, .int 0]))]) [0] rfl
          have hDc := hD.sub (ws' := [(mo, .inr (9, [.int 0, .int 0, .ref g2, .ref g3, .ref g4, .ref g5, .ref g6, .ref g7, .ref g8, .ref g9, .ref g10, .ref g11, .ref g12, .ref g13, .ref g14, .ref g15, .ref g16, .ref g17, .ref g18, .ref g19, .int 0, .int 0, .ref g22, .int 0, .ref g24, .int 0, .int 0, .int (-1), .ref g28, .ref g29, .int 0, .int 0]))]) [0] (by decide) rfl
          have hFc := va_free (wc := [(mo, .inr (9, [.int 0, .int 0, .ref g2, .ref g3, .ref g4, .ref g5, .ref g6, .ref g7, .ref g8, .ref g9, .ref g10, .ref g11, .ref g12, .ref g13, .ref g14, .ref g15, .ref g16, .ref g17, .ref g18, .ref g19, .int 0, .int 0, .ref g22, .int 0, .ref g24, .int 0, .int 0, .int (-1), .ref g28, .ref g29, .int 0, .int 0]))]) hD hS hA [0] rfl
          refine va_calli (vx_runVW (As := [.int (xs (Int32.toNatClampNeg 1)), .int 0, .int 0]) (rest := []) ⟨hx, hb, hml, hown, ht⟩ (k9p_level l D C s.heap.size H.size mo g2 g3 g4 g5 g6 g7 g8 g9 g10 g11 g12 g13 g14 g15 g16 g17 g18 g19 g22 g24 g28 g29 ((xs (Int32.toNatClampNeg 1))) 0 0) (vx_cwVW 3 ht (xg_V m_647 m_648 m_649 m_391 m_241) rfl rfl rfl (by decide +kernel) ⟨Nat.le_of_ble_eq_true rfl, Nat.le_of_ble_eq_true rfl⟩) ⟨xPc_bl, va_recv hK hPc (ci := 9) (q0 := 0) rfl rfl, xPc_at hPc hK hDc hE hS hAb⟩ rfl rfl hl.1 rfl (lv_room (Nat.le_of_ble_eq_true rfl)) dL_law_1540 ⟨(by decide), (by decide)⟩) hS (fun q _ h => hFc q h) hFc (fun r_9 u_10 t H1 locs ht1 hvm hw hB hz1 hk1 hS => ?_)
          obtain ⟨hP1, hD1⟩ := hB
          rw [ht1] at hP1
          try dsimp only at hw
          obtain ⟨hP, hD⟩ := va_join (wr := [(ou, .inl (C 2, 1, .inr (.inl (u_5))))]) (w1 := [(mo, .inr (9, [.int (u_10.2 0 0), .int (u_10.2 1 0), .ref g2, .ref g3, .ref g4, .ref g5, .ref g6, .ref g7, .ref g8, .ref g9, .ref g10, .ref g11, .ref g12, .ref g13, .ref g14, .ref g15, .ref g16, .ref g17, .ref g18, .ref g19, .int (u_10.2 2 0), .int (u_10.2 3 0), .ref g22, .int (u_10.2 4 0), .ref g24, .int (u_10.2 5 0), .int (u_10.2 6 0), .int (u_10.2 7 0), .ref g28, .ref g29, .int (u_10.2 8 0), .int (u_10.2 9 0)]))]) hP hD [0] [1] rfl rfl (by decide) (by decide) hk1 hFc hP1 hD1
          generalize H1 = H at hP hS ⊢
          have hP : va_P D vwCl [(ou, .inl (C 2, 1, .inr (.inl (u_5)))), (mo, .inr (9, [.int (u_10.2 0 0), .int (u_10.2 1 0), .ref g2, .ref g3, .ref g4, .ref g5, .ref g6, .ref g7, .ref g8, .ref g9, .ref g10, .ref g11, .ref g12, .ref g13, .ref g14, .ref g15, .ref g16, .ref g17, .ref g18, .ref g19, .int (u_10.2 2 0), .int (u_10.2 3 0), .ref g22, .int (u_10.2 4 0), .ref g24, .int (u_10.2 5 0), .int (u_10.2 6 0), .int (u_10.2 7 0), .ref g28, .ref g29, .int (u_10.2 8 0), .int (u_10.2 9 0)]))] H := hP
          have hD : va_D A [(ou, .inl (C 2, 1, .inr (.inl (u_5)))), (mo, .inr (9, [.int (u_10.2 0 0), .int (u_10.2 1 0), .ref g2, .ref g3, .ref g4, .ref g5, .ref g6, .ref g7, .ref g8, .ref g9, .ref g10, .ref g11, .ref g12, .ref g13, .ref g14, .ref g15, .ref g16, .ref g17, .ref g18, .ref g19, .int (u_10.2 2 0), .int (u_10.2 3 0), .ref g22, .int (u_10.2 4 0), .ref g24, .int (u_10.2 5 0), .int (u_10.2 6 0), .int (u_10.2 7 0), .ref g28, .ref g29, .int (u_10.2 8 0), .int (u_10.2 9 0)]))] := hD
          have hq_1540 := hw
          refine W.widen (k := 258) (n := 111962) (by decide) (by decide) ?_
          refine lv_istore (lv' := [(6, .int r_9), (5, .int 1), (4, .int 0), (3, .ref ou), (2, .ref mo), (1, .ref h0), (0, .ref b)]) hx hb dL_law_1543 hl (by decide) rfl (fun ls hl => ?_)
          refine lv_aload_n hx hb dL_law_1545 rfl (lv_at hl 4 rfl) ?_
          have hPc := hP.sub (ws' := [(mo, .inr (9, [.int (u_10.2 0 0), .int (u_10.2 1 0), .ref g2, .ref g3, .ref g4, .ref g5, .ref g6, .ref g7, .ref g8, .ref g9, .ref g10, .ref g11, .ref g12, .ref g13, .ref g14, .ref g15, .ref g16, .ref g17, .ref g18, .ref g19, .int (u_10.2 2 0), .int (u_10.2 3 0), .ref g22, .int (u_10.2 4 0), .ref g24, .int (u_10.2 5 0), .int (u_10.2 6 0), .int (u_10.2 7 0), .ref g28, .ref g29, .int (u_10.2 8 0), .int (u_10.2 9 0)]))]) [1] rfl
          have hDc := hD.sub (ws' := [(mo, .inr (9, [.int (u_10.2 0 0), .int (u_10.2 1 0), .ref g2, .ref g3, .ref g4, .ref g5, .ref g6, .ref g7, .ref g8, .ref g9, .ref g10, .ref g11, .ref g12, .ref g13, .ref g14, .ref g15, .ref g16, .ref g17, .ref g18, .ref g19, .int (u_10.2 2 0), .int (u_10.2 3 0), .ref g22, .int (u_10.2 4 0), .ref g24, .int (u_10.2 5 0), .int (u_10.2 6 0), .int (u_10.2 7 0), .ref g28, .ref g29, .int (u_10.2 8 0), .int (u_10.2 9 0)]))]) [1] (by decide) rfl
          have hFc := va_free (wc := [(mo, .inr (9, [.int (u_10.2 0 0), .int (u_10.2 1 0), .ref g2, .ref g3, .ref g4, .ref g5, .ref g6, .ref g7, .ref g8, .ref g9, .ref g10, .ref g11, .ref g12, .ref g13, .ref g14, .ref g15, .ref g16, .ref g17, .ref g18, .ref g19, .int (u_10.2 2 0), .int (u_10.2 3 0), .ref g22, .int (u_10.2 4 0), .ref g24, .int (u_10.2 5 0), .int (u_10.2 6 0), .int (u_10.2 7 0), .ref g28, .ref g29, .int (u_10.2 8 0), .int (u_10.2 9 0)]))]) hD hS hA [1] rfl
          refine va_calli (va_runV (As := []) (rest := []) ⟨hx, hb, hml, hown, ht⟩ (k9_thrown l D C s.heap.size H.size mo g2 g3 g4 g5 g6 g7 g8 g9 g10 g11 g12 g13 g14 g15 g16 g17 g18 g19 g22 g24 g28 g29 (u_10.2 0 0) (u_10.2 1 0) (u_10.2 2 0) (u_10.2 3 0) (u_10.2 4 0) (u_10.2 5 0) (u_10.2 6 0) (u_10.2 7 0) (u_10.2 8 0) (u_10.2 9 0)) (cwV 0 ht (xg_V m_562 m_563 m_564 m_391 m_221) rfl rfl rfl (by decide +kernel) ⟨Nat.le_of_ble_eq_true rfl, Nat.le_of_ble_eq_true rfl⟩) ⟨xPc_bl, va_recv hK hPc (ci := 9) (q0 := 0) rfl rfl, xPc_at hPc hK hDc hE hS hAb⟩ rfl rfl hl.1 rfl (lv_room (Nat.le_of_ble_eq_true rfl)) dL_law_1546 ⟨(by decide), (by decide)⟩) hS (fun q _ h => hFc q h) hFc (fun r_11 u_12 t H1 locs ht1 hvm hw hB hz1 hk1 hS => ?_)
          obtain ⟨hP1, hD1⟩ := hB
          rw [ht1] at hP1
          try dsimp only at hw
          obtain ⟨hP, hD⟩ := va_join (wr := [(ou, .inl (C 2, 1, .inr (.inl (u_5))))]) (w1 := [(mo, .inr (9, [.int (u_10.2 0 0), .int (u_10.2 1 0), .ref g2, .ref g3, .ref g4, .ref g5, .ref g6, .ref g7, .ref g8, .ref g9, .ref g10, .ref g11, .ref g12, .ref g13, .ref g14, .ref g15, .ref g16, .ref g17, .ref g18, .ref g19, .int (u_10.2 2 0), .int (u_10.2 3 0), .ref g22, .int (u_10.2 4 0), .ref g24, .int (u_10.2 5 0), .int (u_10.2 6 0), .int (u_10.2 7 0), .ref g28, .ref g29, .int (u_10.2 8 0), .int (u_10.2 9 0)]))]) hP hD [1] [0] rfl rfl (by decide) (by decide) hk1 hFc hP1 hD1
          generalize H1 = H at hP hS ⊢
          have hP : va_P D vwCl [(ou, .inl (C 2, 1, .inr (.inl (u_5)))), (mo, .inr (9, [.int (u_10.2 0 0), .int (u_10.2 1 0), .ref g2, .ref g3, .ref g4, .ref g5, .ref g6, .ref g7, .ref g8, .ref g9, .ref g10, .ref g11, .ref g12, .ref g13, .ref g14, .ref g15, .ref g16, .ref g17, .ref g18, .ref g19, .int (u_10.2 2 0), .int (u_10.2 3 0), .ref g22, .int (u_10.2 4 0), .ref g24, .int (u_10.2 5 0), .int (u_10.2 6 0), .int (u_10.2 7 0), .ref g28, .ref g29, .int (u_10.2 8 0), .int (u_10.2 9 0)]))] H := hP
          have hD : va_D A [(ou, .inl (C 2, 1, .inr (.inl (u_5)))), (mo, .inr (9, [.int (u_10.2 0 0), .int (u_10.2 1 0), .ref g2, .ref g3, .ref g4, .ref g5, .ref g6, .ref g7, .ref g8, .ref g9, .ref g10, .ref g11, .ref g12, .ref g13, .ref g14, .ref g15, .ref g16, .ref g17, .ref g18, .ref g19, .int (u_10.2 2 0), .int (u_10.2 3 0), .ref g22, .int (u_10.2 4 0), .ref g24, .int (u_10.2 5 0), .int (u_10.2 6 0), .int (u_10.2 7 0), .ref g28, .ref g29, .int (u_10.2 8 0), .int (u_10.2 9 0)]))] := hD
          have hq_1546 := hw
          obtain rfl : r_11 = (1 : Int32) := hw.trans hq_1540
          refine lv_iload hx hb dL_law_1549 (lv_at hl 1 rfl) ?_
          refine lv_icmp_eq (tgt := 1556) hx hb dL_law_1551 (by decide) (fun c_1551 => ?_) (fun c_1551 => ?_)
          rotate_left
          · exact absurd c_1551 (by decide)
          refine lv_iload hx hb dL_law_1556 (lv_at hl 1 rfl) ?_
          refine lv_if_ne (tgt := 1580) hx hb dL_law_1558 (by decide) (fun c_1558 => ?_) (fun c_1558 => ?_)
          rotate_left
          · exact absurd c_1558 (by decide)
          refine lv_goto (tgt := 1732) hx hb dL_law_1580 (by decide) ?_
          exact lc_end ⟨hl0, hx, hb, hr, hml, hown, ht, hX, hbl, hlocks, hK, hE, hA, hAs, hbA⟩ (by decide) (by decide) hS (lv_sub hl [2, 6] rfl)
        · skip
          refine lv_iconst (v := 1) hx hb dL_law_1535 (by decide) ?_
          refine lv_goto (tgt := 1540) hx hb dL_law_1536 (by decide) ?_
          have hPc := hP.sub (ws' := [(mo, .inr (9, [.int 0, .int 0, .ref g2, .ref g3, .ref g4, .ref g5, .ref g6, .ref g7, .ref g8, .ref g9, .ref g10, .ref g11, .ref g12, .ref g13, .ref g14, .ref g15, .ref g16, .ref g17, .ref g18, .ref g19, .int 0, .int 0, .ref g22, .int 0, .ref g24, .int 0, .int 0, .int (-1), .ref g28, .ref g29, .int 0, .int 0]))]) [0] rfl
          have hDc := hD.sub (ws' := [(mo, .inr (9, [.int 0, .int 0, .ref g2, .ref g3, .ref g4, .ref g5, .ref g6, .ref g7, .ref g8, .ref g9, .ref g10, .ref g11, .ref g12, .ref g13, .ref g14, .ref g15, .ref g16, .ref g17, .ref g18, .ref g19, .int 0, .int 0, .ref g22, .int 0, .ref g24, .int 0, .int 0, .int (-1), .ref g28, .ref g29, .int 0, .int 0]))]) [0] (by decide) rfl
          have hFc := va_free (wc := [(mo, .inr (9, [.int 0, .int 0, .ref g2, .ref g3, .ref g4, .ref g5, .ref g6, .ref g7, .ref g8, .ref g9, .ref g10, .ref g11, .ref g12, .ref g13, .ref g14, .ref g15, .ref g16, .ref g17, .ref g18, .ref g19, .int 0, .int 0, .ref g22, .int 0, .ref g24, .int 0, .int 0, .int (-1), .ref g28, .ref g29, .int 0, .int 0]))]) hD hS hA [0] rfl
          refine va_calli (vx_runVW (As := [.int (xs (Int32.toNatClampNeg 1)), .int 0, .int 1]) (rest := []) ⟨hx, hb, hml, hown, ht⟩ (k9p_level l D C s.heap.size H.size mo g2 g3 g4 g5 g6 g7 g8 g9 g10 g11 g12 g13 g14 g15 g16 g17 g18 g19 g22 g24 g28 g29 ((xs (Int32.toNatClampNeg 1))) 0 1) (vx_cwVW 3 ht (xg_V m_647 m_648 m_649 m_391 m_241) rfl rfl rfl (by decide +kernel) ⟨Nat.le_of_ble_eq_true rfl, Nat.le_of_ble_eq_true rfl⟩) ⟨xPc_bl, va_recv hK hPc (ci := 9) (q0 := 0) rfl rfl, xPc_at hPc hK hDc hE hS hAb⟩ rfl rfl hl.1 rfl (lv_room (Nat.le_of_ble_eq_true rfl)) dL_law_1540 ⟨(by decide), (by decide)⟩) hS (fun q _ h => hFc q h) hFc (fun r_13 u_14 t H1 locs ht1 hvm hw hB hz1 hk1 hS => ?_)
          obtain ⟨hP1, hD1⟩ := hB
          rw [ht1] at hP1
          try dsimp only at hw
          obtain ⟨hP, hD⟩ := va_join (wr := [(ou, .inl (C 2, 1, .inr (.inl (u_5))))]) (w1 := [(mo, .inr (9, [.int (u_14.2 0 0), .int (u_14.2 1 0), .ref g2, .ref g3, .ref g4, .ref g5, .ref g6, .ref g7, .ref g8, .ref g9, .ref g10, .ref g11, .ref g12, .ref g13, .ref g14, .ref g15, .ref g16, .ref g17, .ref g18, .ref g19, .int (u_14.2 2 0), .int (u_14.2 3 0), .ref g22, .int (u_14.2 4 0), .ref g24, .int (u_14.2 5 0), .int (u_14.2 6 0), .int (u_14.2 7 0), .ref g28, .ref g29, .int (u_14.2 8 0), .int (u_14.2 9 0)]))]) hP hD [0] [1] rfl rfl (by decide) (by decide) hk1 hFc hP1 hD1
          generalize H1 = H at hP hS ⊢
          have hP : va_P D vwCl [(ou, .inl (C 2, 1, .inr (.inl (u_5)))), (mo, .inr (9, [.int (u_14.2 0 0), .int (u_14.2 1 0), .ref g2, .ref g3, .ref g4, .ref g5, .ref g6, .ref g7, .ref g8, .ref g9, .ref g10, .ref g11, .ref g12, .ref g13, .ref g14, .ref g15, .ref g16, .ref g17, .ref g18, .ref g19, .int (u_14.2 2 0), .int (u_14.2 3 0), .ref g22, .int (u_14.2 4 0), .ref g24, .int (u_14.2 5 0), .int (u_14.2 6 0), .int (u_14.2 7 0), .ref g28, .ref g29, .int (u_14.2 8 0), .int (u_14.2 9 0)]))] H := hP
          have hD : va_D A [(ou, .inl (C 2, 1, .inr (.inl (u_5)))), (mo, .inr (9, [.int (u_14.2 0 0), .int (u_14.2 1 0), .ref g2, .ref g3, .ref g4, .ref g5, .ref g6, .ref g7, .ref g8, .ref g9, .ref g10, .ref g11, .ref g12, .ref g13, .ref g14, .ref g15, .ref g16, .ref g17, .ref g18, .ref g19, .int (u_14.2 2 0), .int (u_14.2 3 0), .ref g22, .int (u_14.2 4 0), .ref g24, .int (u_14.2 5 0), .int (u_14.2 6 0), .int (u_14.2 7 0), .ref g28, .ref g29, .int (u_14.2 8 0), .int (u_14.2 9 0)]))] := hD
          have hq_1540 := hw
          refine W.widen (k := 258) (n := 111962) (by decide) (by decide) ?_
          refine lv_istore (lv' := [(6, .int r_13), (5, .int 1), (4, .int 0), (3, .ref ou), (2, .ref mo), (1, .ref h0), (0, .ref b)]) hx hb dL_law_1543 hl (by decide) rfl (fun ls hl => ?_)
          refine lv_aload_n hx hb dL_law_1545 rfl (lv_at hl 4 rfl) ?_
          have hPc := hP.sub (ws' := [(mo, .inr (9, [.int (u_14.2 0 0), .int (u_14.2 1 0), .ref g2, .ref g3, .ref g4, .ref g5, .ref g6, .ref g7, .ref g8, .ref g9, .ref g10, .ref g11, .ref g12, .ref g13, .ref g14, .ref g15, .ref g16, .ref g17, .ref g18, .ref g19, .int (u_14.2 2 0), .int (u_14.2 3 0), .ref g22, .int (u_14.2 4 0), .ref g24, .int (u_14.2 5 0), .int (u_14.2 6 0), .int (u_14.2 7 0), .ref g28, .ref g29, .int (u_14.2 8 0), .int (u_14.2 9 0)]))]) [1] rfl
          have hDc := hD.sub (ws' := [(mo, .inr (9, [.int (u_14.2 0 0), .int (u_14.2 1 0), .ref g2, .ref g3, .ref g4, .ref g5, .ref g6, .ref g7, .ref g8, .ref g9, .ref g10, .ref g11, .ref g12, .ref g13, .ref g14, .ref g15, .ref g16, .ref g17, .ref g18, .ref g19, .int (u_14.2 2 0), .int (u_14.2 3 0), .ref g22, .int (u_14.2 4 0), .ref g24, .int (u_14.2 5 0), .int (u_14.2 6 0), .int (u_14.2 7 0), .ref g28, .ref g29, .int (u_14.2 8 0), .int (u_14.2 9 0)]))]) [1] (by decide) rfl
          have hFc := va_free (wc := [(mo, .inr (9, [.int (u_14.2 0 0), .int (u_14.2 1 0), .ref g2, .ref g3, .ref g4, .ref g5, .ref g6, .ref g7, .ref g8, .ref g9, .ref g10, .ref g11, .ref g12, .ref g13, .ref g14, .ref g15, .ref g16, .ref g17, .ref g18, .ref g19, .int (u_14.2 2 0), .int (u_14.2 3 0), .ref g22, .int (u_14.2 4 0), .ref g24, .int (u_14.2 5 0), .int (u_14.2 6 0), .int (u_14.2 7 0), .ref g28, .ref g29, .int (u_14.2 8 0), .int (u_14.2 9 0)]))]) hD hS hA [1] rfl
          refine va_calli (va_runV (As := []) (rest := []) ⟨hx, hb, hml, hown, ht⟩ (k9_thrown l D C s.heap.size H.size mo g2 g3 g4 g5 g6 g7 g8 g9 g10 g11 g12 g13 g14 g15 g16 g17 g18 g19 g22 g24 g28 g29 (u_14.2 0 0) (u_14.2 1 0) (u_14.2 2 0) (u_14.2 3 0) (u_14.2 4 0) (u_14.2 5 0) (u_14.2 6 0) (u_14.2 7 0) (u_14.2 8 0) (u_14.2 9 0)) (cwV 0 ht (xg_V m_562 m_563 m_564 m_391 m_221) rfl rfl rfl (by decide +kernel) ⟨Nat.le_of_ble_eq_true rfl, Nat.le_of_ble_eq_true rfl⟩) ⟨xPc_bl, va_recv hK hPc (ci := 9) (q0 := 0) rfl rfl, xPc_at hPc hK hDc hE hS hAb⟩ rfl rfl hl.1 rfl (lv_room (Nat.le_of_ble_eq_true rfl)) dL_law_1546 ⟨(by decide), (by decide)⟩) hS (fun q _ h => hFc q h) hFc (fun r_15 u_16 t H1 locs ht1 hvm hw hB hz1 hk1 hS => ?_)
          obtain ⟨hP1, hD1⟩ := hB
          rw [ht1] at hP1
          try dsimp only at hw
          obtain ⟨hP, hD⟩ := va_join (wr := [(ou, .inl (C 2, 1, .inr (.inl (u_5))))]) (w1 := [(mo, .inr (9, [.int (u_14.2 0 0), .int (u_14.2 1 0), .ref g2, .ref g3, .ref g4, .ref g5, .ref g6, .ref g7, .ref g8, .ref g9, .ref g10, .ref g11, .ref g12, .ref g13, .ref g14, .ref g15, .ref g16, .ref g17, .ref g18, .ref g19, .int (u_14.2 2 0), .int (u_14.2 3 0), .ref g22, .int (u_14.2 4 0), .ref g24, .int (u_14.2 5 0), .int (u_14.2 6 0), .int (u_14.2 7 0), .ref g28, .ref g29, .int (u_14.2 8 0), .int (u_14.2 9 0)]))]) hP hD [1] [0] rfl rfl (by decide) (by decide) hk1 hFc hP1 hD1
          generalize H1 = H at hP hS ⊢
          have hP : va_P D vwCl [(ou, .inl (C 2, 1, .inr (.inl (u_5)))), (mo, .inr (9, [.int (u_14.2 0 0), .int (u_14.2 1 0), .ref g2, .ref g3, .ref g4, .ref g5, .ref g6, .ref g7, .ref g8, .ref g9, .ref g10, .ref g11, .ref g12, .ref g13, .ref g14, .ref g15, .ref g16, .ref g17, .ref g18, .ref g19, .int (u_14.2 2 0), .int (u_14.2 3 0), .ref g22, .int (u_14.2 4 0), .ref g24, .int (u_14.2 5 0), .int (u_14.2 6 0), .int (u_14.2 7 0), .ref g28, .ref g29, .int (u_14.2 8 0), .int (u_14.2 9 0)]))] H := hP
          have hD : va_D A [(ou, .inl (C 2, 1, .inr (.inl (u_5)))), (mo, .inr (9, [.int (u_14.2 0 0), .int (u_14.2 1 0), .ref g2, .ref g3, .ref g4, .ref g5, .ref g6, .ref g7, .ref g8, .ref g9, .ref g10, .ref g11, .ref g12, .ref g13, .ref g14, .ref g15, .ref g16, .ref g17, .ref g18, .ref g19, .int (u_14.2 2 0), .int (u_14.2 3 0), .ref g22, .int (u_14.2 4 0), .ref g24, .int (u_14.2 5 0), .int (u_14.2 6 0), .int (u_14.2 7 0), .ref g28, .ref g29, .int (u_14.2 8 0), .int (u_14.2 9 0)]))] := hD
          have hq_1546 := hw
          obtain rfl : r_15 = (1 : Int32) := hw.trans hq_1540
          refine lv_iload hx hb dL_law_1549 (lv_at hl 1 rfl) ?_
          refine lv_icmp_eq (tgt := 1556) hx hb dL_law_1551 (by decide) (fun c_1551 => ?_) (fun c_1551 => ?_)
          rotate_left
          · exact absurd c_1551 (by decide)
          refine lv_iload hx hb dL_law_1556 (lv_at hl 1 rfl) ?_
          refine lv_if_ne (tgt := 1580) hx hb dL_law_1558 (by decide) (fun c_1558 => ?_) (fun c_1558 => ?_)
          rotate_left
          · exact absurd c_1558 (by decide)
          refine lv_goto (tgt := 1732) hx hb dL_law_1580 (by decide) ?_
          exact lc_end ⟨hl0, hx, hb, hr, hml, hown, ht, hX, hbl, hlocks, hK, hE, hA, hAs, hbA⟩ (by decide) (by decide) hS (lv_sub hl [2, 6] rfl)
      · skip
        refine lv_iconst (v := 1) hx hb dL_law_1521 (by decide) ?_
        refine lv_goto (tgt := 1526) hx hb dL_law_1522 (by decide) ?_
        refine lv_aload_n hx hb dL_law_1526 rfl (lv_at hl 5 rfl) ?_
        refine lv_iload hx hb dL_law_1527 (lv_at hl 1 rfl) ?_
        refine lv_iconst (v := 3) hx hb dL_law_1529 (by decide) ?_
        refine lv_iadd hx hb dL_law_1530 ?_
        refine lv_topi (fun x_17 ex_17 => ?_)
        obtain rfl : x_17 = (3 : Int32) := ex_17.trans (by decide)
        refine va_sld hx hb hX hbl hbA hS (by unfold vp_in; decide) dL_law_1531 ?_
        refine lv_if_eq (tgt := 1539) hx hb dL_law_1532 (by decide) (fun c_1532 => ?_) (fun c_1532 => ?_)
        · skip
          refine lv_iconst (v := 0) hx hb dL_law_1539 (by decide) ?_
          have hPc := hP.sub (ws' := [(mo, .inr (9, [.int 0, .int 0, .ref g2, .ref g3, .ref g4, .ref g5, .ref g6, .ref g7, .ref g8, .ref g9, .ref g10, .ref g11, .ref g12, .ref g13, .ref g14, .ref g15, .ref g16, .ref g17, .ref g18, .ref g19, .int 0, .int 0, .ref g22, .int 0, .ref g24, .int 0, .int 0, .int (-1), .ref g28, .ref g29, .int 0, .int 0]))]) [0] rfl
          have hDc := hD.sub (ws' := [(mo, .inr (9, [.int 0, .int 0, .ref g2, .ref g3, .ref g4, .ref g5, .ref g6, .ref g7, .ref g8, .ref g9, .ref g10, .ref g11, .ref g12, .ref g13, .ref g14, .ref g15, .ref g16, .ref g17, .ref g18, .ref g19, .int 0, .int 0, .ref g22, .int 0, .ref g24, .int 0, .int 0, .int (-1), .ref g28, .ref g29, .int 0, .int 0]))]) [0] (by decide) rfl
          have hFc := va_free (wc := [(mo, .inr (9, [.int 0, .int 0, .ref g2, .ref g3, .ref g4, .ref g5, .ref g6, .ref g7, .ref g8, .ref g9, .ref g10, .ref g11, .ref g12, .ref g13, .ref g14, .ref g15, .ref g16, .ref g17, .ref g18, .ref g19, .int 0, .int 0, .ref g22, .int 0, .ref g24, .int 0, .int 0, .int (-1), .ref g28, .ref g29, .int 0, .int 0]))]) hD hS hA [0] rfl
          refine va_calli (vx_runVW (As := [.int (xs (Int32.toNatClampNeg 1)), .int 1, .int 0]) (rest := []) ⟨hx, hb, hml, hown, ht⟩ (k9p_level l D C s.heap.size H.size mo g2 g3 g4 g5 g6 g7 g8 g9 g10 g11 g12 g13 g14 g15 g16 g17 g18 g19 g22 g24 g28 g29 ((xs (Int32.toNatClampNeg 1))) 1 0) (vx_cwVW 3 ht (xg_V m_647 m_648 m_649 m_391 m_241) rfl rfl rfl (by decide +kernel) ⟨Nat.le_of_ble_eq_true rfl, Nat.le_of_ble_eq_true rfl⟩) ⟨xPc_bl, va_recv hK hPc (ci := 9) (q0 := 0) rfl rfl, xPc_at hPc hK hDc hE hS hAb⟩ rfl rfl hl.1 rfl (lv_room (Nat.le_of_ble_eq_true rfl)) dL_law_1540 ⟨(by decide), (by decide)⟩) hS (fun q _ h => hFc q h) hFc (fun r_18 u_19 t H1 locs ht1 hvm hw hB hz1 hk1 hS => ?_)
          obtain ⟨hP1, hD1⟩ := hB
          rw [ht1] at hP1
          try dsimp only at hw
          obtain ⟨hP, hD⟩ := va_join (wr := [(ou, .inl (C 2, 1, .inr (.inl (u_5))))]) (w1 := [(mo, .inr (9, [.int (u_19.2 0 0), .int (u_19.2 1 0), .ref g2, .ref g3, .ref g4, .ref g5, .ref g6, .ref g7, .ref g8, .ref g9, .ref g10, .ref g11, .ref g12, .ref g13, .ref g14, .ref g15, .ref g16, .ref g17, .ref g18, .ref g19, .int (u_19.2 2 0), .int (u_19.2 3 0), .ref g22, .int (u_19.2 4 0), .ref g24, .int (u_19.2 5 0), .int (u_19.2 6 0), .int (u_19.2 7 0), .ref g28, .ref g29, .int (u_19.2 8 0), .int (u_19.2 9 0)]))]) hP hD [0] [1] rfl rfl (by decide) (by decide) hk1 hFc hP1 hD1
          generalize H1 = H at hP hS ⊢
          have hP : va_P D vwCl [(ou, .inl (C 2, 1, .inr (.inl (u_5)))), (mo, .inr (9, [.int (u_19.2 0 0), .int (u_19.2 1 0), .ref g2, .ref g3, .ref g4, .ref g5, .ref g6, .ref g7, .ref g8, .ref g9, .ref g10, .ref g11, .ref g12, .ref g13, .ref g14, .ref g15, .ref g16, .ref g17, .ref g18, .ref g19, .int (u_19.2 2 0), .int (u_19.2 3 0), .ref g22, .int (u_19.2 4 0), .ref g24, .int (u_19.2 5 0), .int (u_19.2 6 0), .int (u_19.2 7 0), .ref g28, .ref g29, .int (u_19.2 8 0), .int (u_19.2 9 0)]))] H := hP
          have hD : va_D A [(ou, .inl (C 2, 1, .inr (.inl (u_5)))), (mo, .inr (9, [.int (u_19.2 0 0), .int (u_19.2 1 0), .ref g2, .ref g3, .ref g4, .ref g5, .ref g6, .ref g7, .ref g8, .ref g9, .ref g10, .ref g11, .ref g12, .ref g13, .ref g14, .ref g15, .ref g16, .ref g17, .ref g18, .ref g19, .int (u_19.2 2 0), .int (u_19.2 3 0), .ref g22, .int (u_19.2 4 0), .ref g24, .int (u_19.2 5 0), .int (u_19.2 6 0), .int (u_19.2 7 0), .ref g28, .ref g29, .int (u_19.2 8 0), .int (u_19.2 9 0)]))] := hD
          have hq_1540 := hw
          refine W.widen (k := 258) (n := 111962) (by decide) (by decide) ?_
          refine lv_istore (lv' := [(6, .int r_18), (5, .int 1), (4, .int 0), (3, .ref ou), (2, .ref mo), (1, .ref h0), (0, .ref b)]) hx hb dL_law_1543 hl (by decide) rfl (fun ls hl => ?_)
          refine lv_aload_n hx hb dL_law_1545 rfl (lv_at hl 4 rfl) ?_
          have hPc := hP.sub (ws' := [(mo, .inr (9, [.int (u_19.2 0 0), .int (u_19.2 1 0), .ref g2, .ref g3, .ref g4, .ref g5, .ref g6, .ref g7, .ref g8, .ref g9, .ref g10, .ref g11, .ref g12, .ref g13, .ref g14, .ref g15, .ref g16, .ref g17, .ref g18, .ref g19, .int (u_19.2 2 0), .int (u_19.2 3 0), .ref g22, .int (u_19.2 4 0), .ref g24, .int (u_19.2 5 0), .int (u_19.2 6 0), .int (u_19.2 7 0), .ref g28, .ref g29, .int (u_19.2 8 0), .int (u_19.2 9 0)]))]) [1] rfl
          have hDc := hD.sub (ws' := [(mo, .inr (9, [.int (u_19.2 0 0), .int (u_19.2 1 0), .ref g2, .ref g3, .ref g4, .ref g5, .ref g6, .ref g7, .ref g8, .ref g9, .ref g10, .ref g11, .ref g12, .ref g13, .ref g14, .ref g15, .ref g16, .ref g17, .ref g18, .ref g19, .int (u_19.2 2 0), .int (u_19.2 3 0), .ref g22, .int (u_19.2 4 0), .ref g24, .int (u_19.2 5 0), .int (u_19.2 6 0), .int (u_19.2 7 0), .ref g28, .ref g29, .int (u_19.2 8 0), .int (u_19.2 9 0)]))]) [1] (by decide) rfl
          have hFc := va_free (wc := [(mo, .inr (9, [.int (u_19.2 0 0), .int (u_19.2 1 0), .ref g2, .ref g3, .ref g4, .ref g5, .ref g6, .ref g7, .ref g8, .ref g9, .ref g10, .ref g11, .ref g12, .ref g13, .ref g14, .ref g15, .ref g16, .ref g17, .ref g18, .ref g19, .int (u_19.2 2 0), .int (u_19.2 3 0), .ref g22, .int (u_19.2 4 0), .ref g24, .int (u_19.2 5 0), .int (u_19.2 6 0), .int (u_19.2 7 0), .ref g28, .ref g29, .int (u_19.2 8 0), .int (u_19.2 9 0)]))]) hD hS hA [1] rfl
          refine va_calli (va_runV (As := []) (rest := []) ⟨hx, hb, hml, hown, ht⟩ (k9_thrown l D C s.heap.size H.size mo g2 g3 g4 g5 g6 g7 g8 g9 g10 g11 g12 g13 g14 g15 g16 g17 g18 g19 g22 g24 g28 g29 (u_19.2 0 0) (u_19.2 1 0) (u_19.2 2 0) (u_19.2 3 0) (u_19.2 4 0) (u_19.2 5 0) (u_19.2 6 0) (u_19.2 7 0) (u_19.2 8 0) (u_19.2 9 0)) (cwV 0 ht (xg_V m_562 m_563 m_564 m_391 m_221) rfl rfl rfl (by decide +kernel) ⟨Nat.le_of_ble_eq_true rfl, Nat.le_of_ble_eq_true rfl⟩) ⟨xPc_bl, va_recv hK hPc (ci := 9) (q0 := 0) rfl rfl, xPc_at hPc hK hDc hE hS hAb⟩ rfl rfl hl.1 rfl (lv_room (Nat.le_of_ble_eq_true rfl)) dL_law_1546 ⟨(by decide), (by decide)⟩) hS (fun q _ h => hFc q h) hFc (fun r_20 u_21 t H1 locs ht1 hvm hw hB hz1 hk1 hS => ?_)
          obtain ⟨hP1, hD1⟩ := hB
          rw [ht1] at hP1
          try dsimp only at hw
          obtain ⟨hP, hD⟩ := va_join (wr := [(ou, .inl (C 2, 1, .inr (.inl (u_5))))]) (w1 := [(mo, .inr (9, [.int (u_19.2 0 0), .int (u_19.2 1 0), .ref g2, .ref g3, .ref g4, .ref g5, .ref g6, .ref g7, .ref g8, .ref g9, .ref g10, .ref g11, .ref g12, .ref g13, .ref g14, .ref g15, .ref g16, .ref g17, .ref g18, .ref g19, .int (u_19.2 2 0), .int (u_19.2 3 0), .ref g22, .int (u_19.2 4 0), .ref g24, .int (u_19.2 5 0), .int (u_19.2 6 0), .int (u_19.2 7 0), .ref g28, .ref g29, .int (u_19.2 8 0), .int (u_19.2 9 0)]))]) hP hD [1] [0] rfl rfl (by decide) (by decide) hk1 hFc hP1 hD1
          generalize H1 = H at hP hS ⊢
          have hP : va_P D vwCl [(ou, .inl (C 2, 1, .inr (.inl (u_5)))), (mo, .inr (9, [.int (u_19.2 0 0), .int (u_19.2 1 0), .ref g2, .ref g3, .ref g4, .ref g5, .ref g6, .ref g7, .ref g8, .ref g9, .ref g10, .ref g11, .ref g12, .ref g13, .ref g14, .ref g15, .ref g16, .ref g17, .ref g18, .ref g19, .int (u_19.2 2 0), .int (u_19.2 3 0), .ref g22, .int (u_19.2 4 0), .ref g24, .int (u_19.2 5 0), .int (u_19.2 6 0), .int (u_19.2 7 0), .ref g28, .ref g29, .int (u_19.2 8 0), .int (u_19.2 9 0)]))] H := hP
          have hD : va_D A [(ou, .inl (C 2, 1, .inr (.inl (u_5)))), (mo, .inr (9, [.int (u_19.2 0 0), .int (u_19.2 1 0), .ref g2, .ref g3, .ref g4, .ref g5, .ref g6, .ref g7, .ref g8, .ref g9, .ref g10, .ref g11, .ref g12, .ref g13, .ref g14, .ref g15, .ref g16, .ref g17, .ref g18, .ref g19, .int (u_19.2 2 0), .int (u_19.2 3 0), .ref g22, .int (u_19.2 4 0), .ref g24, .int (u_19.2 5 0), .int (u_19.2 6 0), .int (u_19.2 7 0), .ref g28, .ref g29, .int (u_19.2 8 0), .int (u_19.2 9 0)]))] := hD
          have hq_1546 := hw
          obtain rfl : r_20 = (1 : Int32) := hw.trans hq_1540
          refine lv_iload hx hb dL_law_1549 (lv_at hl 1 rfl) ?_
          refine lv_icmp_eq (tgt := 1556) hx hb dL_law_1551 (by decide) (fun c_1551 => ?_) (fun c_1551 => ?_)
          rotate_left
          · exact absurd c_1551 (by decide)
          refine lv_iload hx hb dL_law_1556 (lv_at hl 1 rfl) ?_
          refine lv_if_ne (tgt := 1580) hx hb dL_law_1558 (by decide) (fun c_1558 => ?_) (fun c_1558 => ?_)
          rotate_left
          · exact absurd c_1558 (by decide)
          refine lv_goto (tgt := 1732) hx hb dL_law_1580 (by decide) ?_
          exact lc_end ⟨hl0, hx, hb, hr, hml, hown, ht, hX, hbl, hlocks, hK, hE, hA, hAs, hbA⟩ (by decide) (by decide) hS (lv_sub hl [2, 6] rfl)
        · skip
          refine lv_iconst (v := 1) hx hb dL_law_1535 (by decide) ?_
          refine lv_goto (tgt := 1540) hx hb dL_law_1536 (by decide) ?_
          have hPc := hP.sub (ws' := [(mo, .inr (9, [.int 0, .int 0, .ref g2, .ref g3, .ref g4, .ref g5, .ref g6, .ref g7, .ref g8, .ref g9, .ref g10, .ref g11, .ref g12, .ref g13, .ref g14, .ref g15, .ref g16, .ref g17, .ref g18, .ref g19, .int 0, .int 0, .ref g22, .int 0, .ref g24, .int 0, .int 0, .int (-1), .ref g28, .ref g29, .int 0, .int 0]))]) [0] rfl
          have hDc := hD.sub (ws' := [(mo, .inr (9, [.int 0, .int 0, .ref g2, .ref g3, .ref g4, .ref g5, .ref g6, .ref g7, .ref g8, .ref g9, .ref g10, .ref g11, .ref g12, .ref g13, .ref g14, .ref g15, .ref g16, .ref g17, .ref g18, .ref g19, .int 0, .int 0, .ref g22, .int 0, .ref g24, .int 0, .int 0, .int (-1), .ref g28, .ref g29, .int 0, .int 0]))]) [0] (by decide) rfl
          have hFc := va_free (wc := [(mo, .inr (9, [.int 0, .int 0, .ref g2, .ref g3, .ref g4, .ref g5, .ref g6, .ref g7, .ref g8, .ref g9, .ref g10, .ref g11, .ref g12, .ref g13, .ref g14, .ref g15, .ref g16, .ref g17, .ref g18, .ref g19, .int 0, .int 0, .ref g22, .int 0, .ref g24, .int 0, .int 0, .int (-1), .ref g28, .ref g29, .int 0, .int 0]))]) hD hS hA [0] rfl
          refine va_calli (vx_runVW (As := [.int (xs (Int32.toNatClampNeg 1)), .int 1, .int 1]) (rest := []) ⟨hx, hb, hml, hown, ht⟩ (k9p_level l D C s.heap.size H.size mo g2 g3 g4 g5 g6 g7 g8 g9 g10 g11 g12 g13 g14 g15 g16 g17 g18 g19 g22 g24 g28 g29 ((xs (Int32.toNatClampNeg 1))) 1 1) (vx_cwVW 3 ht (xg_V m_647 m_648 m_649 m_391 m_241) rfl rfl rfl (by decide +kernel) ⟨Nat.le_of_ble_eq_true rfl, Nat.le_of_ble_eq_true rfl⟩) ⟨xPc_bl, va_recv hK hPc (ci := 9) (q0 := 0) rfl rfl, xPc_at hPc hK hDc hE hS hAb⟩ rfl rfl hl.1 rfl (lv_room (Nat.le_of_ble_eq_true rfl)) dL_law_1540 ⟨(by decide), (by decide)⟩) hS (fun q _ h => hFc q h) hFc (fun r_22 u_23 t H1 locs ht1 hvm hw hB hz1 hk1 hS => ?_)
          obtain ⟨hP1, hD1⟩ := hB
          rw [ht1] at hP1
          try dsimp only at hw
          obtain ⟨hP, hD⟩ := va_join (wr := [(ou, .inl (C 2, 1, .inr (.inl (u_5))))]) (w1 := [(mo, .inr (9, [.int (u_23.2 0 0), .int (u_23.2 1 0), .ref g2, .ref g3, .ref g4, .ref g5, .ref g6, .ref g7, .ref g8, .ref g9, .ref g10, .ref g11, .ref g12, .ref g13, .ref g14, .ref g15, .ref g16, .ref g17, .ref g18, .ref g19, .int (u_23.2 2 0), .int (u_23.2 3 0), .ref g22, .int (u_23.2 4 0), .ref g24, .int (u_23.2 5 0), .int (u_23.2 6 0), .int (u_23.2 7 0), .ref g28, .ref g29, .int (u_23.2 8 0), .int (u_23.2 9 0)]))]) hP hD [0] [1] rfl rfl (by decide) (by decide) hk1 hFc hP1 hD1
          generalize H1 = H at hP hS ⊢
          have hP : va_P D vwCl [(ou, .inl (C 2, 1, .inr (.inl (u_5)))), (mo, .inr (9, [.int (u_23.2 0 0), .int (u_23.2 1 0), .ref g2, .ref g3, .ref g4, .ref g5, .ref g6, .ref g7, .ref g8, .ref g9, .ref g10, .ref g11, .ref g12, .ref g13, .ref g14, .ref g15, .ref g16, .ref g17, .ref g18, .ref g19, .int (u_23.2 2 0), .int (u_23.2 3 0), .ref g22, .int (u_23.2 4 0), .ref g24, .int (u_23.2 5 0), .int (u_23.2 6 0), .int (u_23.2 7 0), .ref g28, .ref g29, .int (u_23.2 8 0), .int (u_23.2 9 0)]))] H := hP
          have hD : va_D A [(ou, .inl (C 2, 1, .inr (.inl (u_5)))), (mo, .inr (9, [.int (u_23.2 0 0), .int (u_23.2 1 0), .ref g2, .ref g3, .ref g4, .ref g5, .ref g6, .ref g7, .ref g8, .ref g9, .ref g10, .ref g11, .ref g12, .ref g13, .ref g14, .ref g15, .ref g16, .ref g17, .ref g18, .ref g19, .int (u_23.2 2 0), .int (u_23.2 3 0), .ref g22, .int (u_23.2 4 0), .ref g24, .int (u_23.2 5 0), .int (u_23.2 6 0), .int (u_23.2 7 0), .ref g28, .ref g29, .int (u_23.2 8 0), .int (u_23.2 9 0)]))] := hD
          have hq_1540 := hw
          refine W.widen (k := 258) (n := 111962) (by decide) (by decide) ?_
          refine lv_istore (lv' := [(6, .int r_22), (5, .int 1), (4, .int 0), (3, .ref ou), (2, .ref mo), (1, .ref h0), (0, .ref b)]) hx hb dL_law_1543 hl (by decide) rfl (fun ls hl => ?_)
          refine lv_aload_n hx hb dL_law_1545 rfl (lv_at hl 4 rfl) ?_
          have hPc := hP.sub (ws' := [(mo, .inr (9, [.int (u_23.2 0 0), .int (u_23.2 1 0), .ref g2, .ref g3, .ref g4, .ref g5, .ref g6, .ref g7, .ref g8, .ref g9, .ref g10, .ref g11, .ref g12, .ref g13, .ref g14, .ref g15, .ref g16, .ref g17, .ref g18, .ref g19, .int (u_23.2 2 0), .int (u_23.2 3 0), .ref g22, .int (u_23.2 4 0), .ref g24, .int (u_23.2 5 0), .int (u_23.2 6 0), .int (u_23.2 7 0), .ref g28, .ref g29, .int (u_23.2 8 0), .int (u_23.2 9 0)]))]) [1] rfl
          have hDc := hD.sub (ws' := [(mo, .inr (9, [.int (u_23.2 0 0), .int (u_23.2 1 0), .ref g2, .ref g3, .ref g4, .ref g5, .ref g6, .ref g7, .ref g8, .ref g9, .ref g10, .ref g11, .ref g12, .ref g13, .ref g14, .ref g15, .ref g16, .ref g17, .ref g18, .ref g19, .int (u_23.2 2 0), .int (u_23.2 3 0), .ref g22, .int (u_23.2 4 0), .ref g24, .int (u_23.2 5 0), .int (u_23.2 6 0), .int (u_23.2 7 0), .ref g28, .ref g29, .int (u_23.2 8 0), .int (u_23.2 9 0)]))]) [1] (by decide) rfl
          have hFc := va_free (wc := [(mo, .inr (9, [.int (u_23.2 0 0), .int (u_23.2 1 0), .ref g2, .ref g3, .ref g4, .ref g5, .ref g6, .ref g7, .ref g8, .ref g9, .ref g10, .ref g11, .ref g12, .ref g13, .ref g14, .ref g15, .ref g16, .ref g17, .ref g18, .ref g19, .int (u_23.2 2 0), .int (u_23.2 3 0), .ref g22, .int (u_23.2 4 0), .ref g24, .int (u_23.2 5 0), .int (u_23.2 6 0), .int (u_23.2 7 0), .ref g28, .ref g29, .int (u_23.2 8 0), .int (u_23.2 9 0)]))]) hD hS hA [1] rfl
          refine va_calli (va_runV (As := []) (rest := []) ⟨hx, hb, hml, hown, ht⟩ (k9_thrown l D C s.heap.size H.size mo g2 g3 g4 g5 g6 g7 g8 g9 g10 g11 g12 g13 g14 g15 g16 g17 g18 g19 g22 g24 g28 g29 (u_23.2 0 0) (u_23.2 1 0) (u_23.2 2 0) (u_23.2 3 0) (u_23.2 4 0) (u_23.2 5 0) (u_23.2 6 0) (u_23.2 7 0) (u_23.2 8 0) (u_23.2 9 0)) (cwV 0 ht (xg_V m_562 m_563 m_564 m_391 m_221) rfl rfl rfl (by decide +kernel) ⟨Nat.le_of_ble_eq_true rfl, Nat.le_of_ble_eq_true rfl⟩) ⟨xPc_bl, va_recv hK hPc (ci := 9) (q0 := 0) rfl rfl, xPc_at hPc hK hDc hE hS hAb⟩ rfl rfl hl.1 rfl (lv_room (Nat.le_of_ble_eq_true rfl)) dL_law_1546 ⟨(by decide), (by decide)⟩) hS (fun q _ h => hFc q h) hFc (fun r_24 u_25 t H1 locs ht1 hvm hw hB hz1 hk1 hS => ?_)
          obtain ⟨hP1, hD1⟩ := hB
          rw [ht1] at hP1
          try dsimp only at hw
          obtain ⟨hP, hD⟩ := va_join (wr := [(ou, .inl (C 2, 1, .inr (.inl (u_5))))]) (w1 := [(mo, .inr (9, [.int (u_23.2 0 0), .int (u_23.2 1 0), .ref g2, .ref g3, .ref g4, .ref g5, .ref g6, .ref g7, .ref g8, .ref g9, .ref g10, .ref g11, .ref g12, .ref g13, .ref g14, .ref g15, .ref g16, .ref g17, .ref g18, .ref g19, .int (u_23.2 2 0), .int (u_23.2 3 0), .ref g22, .int (u_23.2 4 0), .ref g24, .int (u_23.2 5 0), .int (u_23.2 6 0), .int (u_23.2 7 0), .ref g28, .ref g29, .int (u_23.2 8 0), .int (u_23.2 9 0)]))]) hP hD [1] [0] rfl rfl (by decide) (by decide) hk1 hFc hP1 hD1
          generalize H1 = H at hP hS ⊢
          have hP : va_P D vwCl [(ou, .inl (C 2, 1, .inr (.inl (u_5)))), (mo, .inr (9, [.int (u_23.2 0 0), .int (u_23.2 1 0), .ref g2, .ref g3, .ref g4, .ref g5, .ref g6, .ref g7, .ref g8, .ref g9, .ref g10, .ref g11, .ref g12, .ref g13, .ref g14, .ref g15, .ref g16, .ref g17, .ref g18, .ref g19, .int (u_23.2 2 0), .int (u_23.2 3 0), .ref g22, .int (u_23.2 4 0), .ref g24, .int (u_23.2 5 0), .int (u_23.2 6 0), .int (u_23.2 7 0), .ref g28, .ref g29, .int (u_23.2 8 0), .int (u_23.2 9 0)]))] H := hP
          have hD : va_D A [(ou, .inl (C 2, 1, .inr (.inl (u_5)))), (mo, .inr (9, [.int (u_23.2 0 0), .int (u_23.2 1 0), .ref g2, .ref g3, .ref g4, .ref g5, .ref g6, .ref g7, .ref g8, .ref g9, .ref g10, .ref g11, .ref g12, .ref g13, .ref g14, .ref g15, .ref g16, .ref g17, .ref g18, .ref g19, .int (u_23.2 2 0), .int (u_23.2 3 0), .ref g22, .int (u_23.2 4 0), .ref g24, .int (u_23.2 5 0), .int (u_23.2 6 0), .int (u_23.2 7 0), .ref g28, .ref g29, .int (u_23.2 8 0), .int (u_23.2 9 0)]))] := hD
          have hq_1546 := hw
          obtain rfl : r_24 = (1 : Int32) := hw.trans hq_1540
          refine lv_iload hx hb dL_law_1549 (lv_at hl 1 rfl) ?_
          refine lv_icmp_eq (tgt := 1556) hx hb dL_law_1551 (by decide) (fun c_1551 => ?_) (fun c_1551 => ?_)
          rotate_left
          · exact absurd c_1551 (by decide)
          refine lv_iload hx hb dL_law_1556 (lv_at hl 1 rfl) ?_
          refine lv_if_ne (tgt := 1580) hx hb dL_law_1558 (by decide) (fun c_1558 => ?_) (fun c_1558 => ?_)
          rotate_left
          · exact absurd c_1558 (by decide)
          refine lv_goto (tgt := 1732) hx hb dL_law_1580 (by decide) ?_
          exact lc_end ⟨hl0, hx, hb, hr, hml, hown, ht, hX, hbl, hlocks, hK, hE, hA, hAs, hbA⟩ (by decide) (by decide) hS (lv_sub hl [2, 6] rfl)
    · skip
      refine lv_iconst (v := 1) hx hb dL_law_1494 (by decide) ?_
      refine lv_goto (tgt := 1499) hx hb dL_law_1495 (by decide) ?_
      refine lv_aload_n hx hb dL_law_1499 rfl (lv_at hl 1 rfl) ?_
      have hPc := hP.sub (ws' := [(h0, .inr (5, [.ref s0, .ref de, .ref kl, .ref tl, .ref cu, .ref hk, .ref ca, .int 0, .int 0, .int (-1), .int 0, .int 0])), (kl, .inr (2, [.ref kx, .ref ky, .int 0])), (tl, .inr (4, [.ref tx, .ref ty, .int 1])), (s0, .inr (3, [.ref a0, .ref a1, .ref a2, .ref a3, .ref a4, .ref a5, .ref a6, .int 0, .ref a7, .ref a8, .ref a9, .ref a10, .ref a11, .int 0])), (ou, .inl (C 2, 1, .inr (.inl fo)))]) [0, 1, 2, 3, 4] rfl
      have hDc := hD.sub (ws' := [(h0, .inr (5, [.ref s0, .ref de, .ref kl, .ref tl, .ref cu, .ref hk, .ref ca, .int 0, .int 0, .int (-1), .int 0, .int 0])), (kl, .inr (2, [.ref kx, .ref ky, .int 0])), (tl, .inr (4, [.ref tx, .ref ty, .int 1])), (s0, .inr (3, [.ref a0, .ref a1, .ref a2, .ref a3, .ref a4, .ref a5, .ref a6, .int 0, .ref a7, .ref a8, .ref a9, .ref a10, .ref a11, .int 0])), (ou, .inl (C 2, 1, .inr (.inl fo)))]) [0, 1, 2, 3, 4] (by decide) rfl
      have hFc := va_free (wc := [(h0, .inr (5, [.ref s0, .ref de, .ref kl, .ref tl, .ref cu, .ref hk, .ref ca, .int 0, .int 0, .int (-1), .int 0, .int 0])), (kl, .inr (2, [.ref kx, .ref ky, .int 0])), (tl, .inr (4, [.ref tx, .ref ty, .int 1])), (s0, .inr (3, [.ref a0, .ref a1, .ref a2, .ref a3, .ref a4, .ref a5, .ref a6, .int 0, .ref a7, .ref a8, .ref a9, .ref a10, .ref a11, .int 0])), (ou, .inl (C 2, 1, .inr (.inl fo)))]) hD hS hA [0, 1, 2, 3, 4] rfl
      refine va_calli (vx_runSW (As := [.ref h0, .int (xs (Int32.toNatClampNeg 1)), .int 0, .int 1, .ref ou]) (rest := []) ⟨hx, hb, hml, hown, ht⟩ (kL_level l hl0 D C s.heap.size H.size h0 s0 de kl tl cu hk ca kx ky tx ty a0 a1 a2 a3 a4 a5 a6 a7 a8 a9 a10 a11 ((xs (Int32.toNatClampNeg 1))) 0 1 ou fo) (vx_cwSW 5 ht (xg_T m_645 m_646 m_558 m_486) rfl rfl rfl (by decide +kernel) ⟨Nat.le_of_ble_eq_true rfl, Nat.le_of_ble_eq_true rfl⟩) ⟨xPc_bl, xPc_at hPc hK hDc hE hS hAb⟩ rfl rfl hl.1 rfl (lv_room (Nat.le_of_ble_eq_true rfl)) dL_law_1500 ⟨(by decide), (by decide)⟩) hS (fun q _ h => hFc q h) hFc (fun r_26 u_27 t H1 locs ht1 hvm hw hB hz1 hk1 hS => ?_)
      obtain ⟨hP1, hD1⟩ := hB
      rw [ht1] at hP1
      try dsimp only at hw
      obtain ⟨hP, hD⟩ := va_join (wr := [(mo, .inr (9, [.int 0, .int 0, .ref g2, .ref g3, .ref g4, .ref g5, .ref g6, .ref g7, .ref g8, .ref g9, .ref g10, .ref g11, .ref g12, .ref g13, .ref g14, .ref g15, .ref g16, .ref g17, .ref g18, .ref g19, .int 0, .int 0, .ref g22, .int 0, .ref g24, .int 0, .int 0, .int (-1), .ref g28, .ref g29, .int 0, .int 0]))]) (w1 := [(ou, .inl (C 2, 1, .inr (.inl (u_27))))]) hP hD [0, 1, 2, 3, 4] [5] rfl rfl (by decide) (by decide) hk1 hFc hP1 hD1
      generalize H1 = H at hP hS ⊢
      have hP : va_P D vwCl [(mo, .inr (9, [.int 0, .int 0, .ref g2, .ref g3, .ref g4, .ref g5, .ref g6, .ref g7, .ref g8, .ref g9, .ref g10, .ref g11, .ref g12, .ref g13, .ref g14, .ref g15, .ref g16, .ref g17, .ref g18, .ref g19, .int 0, .int 0, .ref g22, .int 0, .ref g24, .int 0, .int 0, .int (-1), .ref g28, .ref g29, .int 0, .int 0])), (ou, .inl (C 2, 1, .inr (.inl (u_27))))] H := hP
      have hD : va_D A [(mo, .inr (9, [.int 0, .int 0, .ref g2, .ref g3, .ref g4, .ref g5, .ref g6, .ref g7, .ref g8, .ref g9, .ref g10, .ref g11, .ref g12, .ref g13, .ref g14, .ref g15, .ref g16, .ref g17, .ref g18, .ref g19, .int 0, .int 0, .ref g22, .int 0, .ref g24, .int 0, .int 0, .int (-1), .ref g28, .ref g29, .int 0, .int 0])), (ou, .inl (C 2, 1, .inr (.inl (u_27))))] := hD
      have hq_1500 := hw
      obtain rfl : r_26 = (1 : Int32) := hw
      refine W.widen (k := 257) (n := 111955) (by decide) (by decide) ?_
      refine lv_istore (lv' := [(5, .int 1), (4, .int 0), (3, .ref ou), (2, .ref mo), (1, .ref h0), (0, .ref b)]) hx hb dL_law_1503 hl (by decide) rfl (fun ls hl => ?_)
      refine lv_aload_n hx hb dL_law_1505 rfl (lv_at hl 3 rfl) ?_
      refine lv_aload_n hx hb dL_law_1506 rfl (lv_at hl 5 rfl) ?_
      refine lv_iload hx hb dL_law_1507 (lv_at hl 1 rfl) ?_
      refine lv_iconst (v := 1) hx hb dL_law_1509 (by decide) ?_
      refine lv_iadd hx hb dL_law_1510 ?_
      refine lv_topi (fun x_28 ex_28 => ?_)
      obtain rfl : x_28 = (1 : Int32) := ex_28.trans (by decide)
      refine va_sld hx hb hX hbl hbA hS (by unfold vp_in; decide) dL_law_1511 ?_
      refine lv_aload_n hx hb dL_law_1512 rfl (lv_at hl 5 rfl) ?_
      refine lv_iload hx hb dL_law_1513 (lv_at hl 1 rfl) ?_
      refine lv_iconst (v := 2) hx hb dL_law_1515 (by decide) ?_
      refine lv_iadd hx hb dL_law_1516 ?_
      refine lv_topi (fun x_29 ex_29 => ?_)
      obtain rfl : x_29 = (2 : Int32) := ex_29.trans (by decide)
      refine va_sld hx hb hX hbl hbA hS (by unfold vp_in; decide) dL_law_1517 ?_
      refine lv_if_eq (tgt := 1525) hx hb dL_law_1518 (by decide) (fun c_1518 => ?_) (fun c_1518 => ?_)
      · skip
        refine lv_iconst (v := 0) hx hb dL_law_1525 (by decide) ?_
        refine lv_aload_n hx hb dL_law_1526 rfl (lv_at hl 5 rfl) ?_
        refine lv_iload hx hb dL_law_1527 (lv_at hl 1 rfl) ?_
        refine lv_iconst (v := 3) hx hb dL_law_1529 (by decide) ?_
        refine lv_iadd hx hb dL_law_1530 ?_
        refine lv_topi (fun x_30 ex_30 => ?_)
        obtain rfl : x_30 = (3 : Int32) := ex_30.trans (by decide)
        refine va_sld hx hb hX hbl hbA hS (by unfold vp_in; decide) dL_law_1531 ?_
        refine lv_if_eq (tgt := 1539) hx hb dL_law_1532 (by decide) (fun c_1532 => ?_) (fun c_1532 => ?_)
        · skip
          refine lv_iconst (v := 0) hx hb dL_law_1539 (by decide) ?_
          have hPc := hP.sub (ws' := [(mo, .inr (9, [.int 0, .int 0, .ref g2, .ref g3, .ref g4, .ref g5, .ref g6, .ref g7, .ref g8, .ref g9, .ref g10, .ref g11, .ref g12, .ref g13, .ref g14, .ref g15, .ref g16, .ref g17, .ref g18, .ref g19, .int 0, .int 0, .ref g22, .int 0, .ref g24, .int 0, .int 0, .int (-1), .ref g28, .ref g29, .int 0, .int 0]))]) [0] rfl
          have hDc := hD.sub (ws' := [(mo, .inr (9, [.int 0, .int 0, .ref g2, .ref g3, .ref g4, .ref g5, .ref g6, .ref g7, .ref g8, .ref g9, .ref g10, .ref g11, .ref g12, .ref g13, .ref g14, .ref g15, .ref g16, .ref g17, .ref g18, .ref g19, .int 0, .int 0, .ref g22, .int 0, .ref g24, .int 0, .int 0, .int (-1), .ref g28, .ref g29, .int 0, .int 0]))]) [0] (by decide) rfl
          have hFc := va_free (wc := [(mo, .inr (9, [.int 0, .int 0, .ref g2, .ref g3, .ref g4, .ref g5, .ref g6, .ref g7, .ref g8, .ref g9, .ref g10, .ref g11, .ref g12, .ref g13, .ref g14, .ref g15, .ref g16, .ref g17, .ref g18, .ref g19, .int 0, .int 0, .ref g22, .int 0, .ref g24, .int 0, .int 0, .int (-1), .ref g28, .ref g29, .int 0, .int 0]))]) hD hS hA [0] rfl
          refine va_calli (vx_runVW (As := [.int (xs (Int32.toNatClampNeg 1)), .int 0, .int 0]) (rest := []) ⟨hx, hb, hml, hown, ht⟩ (k9p_level l D C s.heap.size H.size mo g2 g3 g4 g5 g6 g7 g8 g9 g10 g11 g12 g13 g14 g15 g16 g17 g18 g19 g22 g24 g28 g29 ((xs (Int32.toNatClampNeg 1))) 0 0) (vx_cwVW 3 ht (xg_V m_647 m_648 m_649 m_391 m_241) rfl rfl rfl (by decide +kernel) ⟨Nat.le_of_ble_eq_true rfl, Nat.le_of_ble_eq_true rfl⟩) ⟨xPc_bl, va_recv hK hPc (ci := 9) (q0 := 0) rfl rfl, xPc_at hPc hK hDc hE hS hAb⟩ rfl rfl hl.1 rfl (lv_room (Nat.le_of_ble_eq_true rfl)) dL_law_1540 ⟨(by decide), (by decide)⟩) hS (fun q _ h => hFc q h) hFc (fun r_31 u_32 t H1 locs ht1 hvm hw hB hz1 hk1 hS => ?_)
          obtain ⟨hP1, hD1⟩ := hB
          rw [ht1] at hP1
          try dsimp only at hw
          obtain ⟨hP, hD⟩ := va_join (wr := [(ou, .inl (C 2, 1, .inr (.inl (u_27))))]) (w1 := [(mo, .inr (9, [.int (u_32.2 0 0), .int (u_32.2 1 0), .ref g2, .ref g3, .ref g4, .ref g5, .ref g6, .ref g7, .ref g8, .ref g9, .ref g10, .ref g11, .ref g12, .ref g13, .ref g14, .ref g15, .ref g16, .ref g17, .ref g18, .ref g19, .int (u_32.2 2 0), .int (u_32.2 3 0), .ref g22, .int (u_32.2 4 0), .ref g24, .int (u_32.2 5 0), .int (u_32.2 6 0), .int (u_32.2 7 0), .ref g28, .ref g29, .int (u_32.2 8 0), .int (u_32.2 9 0)]))]) hP hD [0] [1] rfl rfl (by decide) (by decide) hk1 hFc hP1 hD1
          generalize H1 = H at hP hS ⊢
          have hP : va_P D vwCl [(ou, .inl (C 2, 1, .inr (.inl (u_27)))), (mo, .inr (9, [.int (u_32.2 0 0), .int (u_32.2 1 0), .ref g2, .ref g3, .ref g4, .ref g5, .ref g6, .ref g7, .ref g8, .ref g9, .ref g10, .ref g11, .ref g12, .ref g13, .ref g14, .ref g15, .ref g16, .ref g17, .ref g18, .ref g19, .int (u_32.2 2 0), .int (u_32.2 3 0), .ref g22, .int (u_32.2 4 0), .ref g24, .int (u_32.2 5 0), .int (u_32.2 6 0), .int (u_32.2 7 0), .ref g28, .ref g29, .int (u_32.2 8 0), .int (u_32.2 9 0)]))] H := hP
          have hD : va_D A [(ou, .inl (C 2, 1, .inr (.inl (u_27)))), (mo, .inr (9, [.int (u_32.2 0 0), .int (u_32.2 1 0), .ref g2, .ref g3, .ref g4, .ref g5, .ref g6, .ref g7, .ref g8, .ref g9, .ref g10, .ref g11, .ref g12, .ref g13, .ref g14, .ref g15, .ref g16, .ref g17, .ref g18, .ref g19, .int (u_32.2 2 0), .int (u_32.2 3 0), .ref g22, .int (u_32.2 4 0), .ref g24, .int (u_32.2 5 0), .int (u_32.2 6 0), .int (u_32.2 7 0), .ref g28, .ref g29, .int (u_32.2 8 0), .int (u_32.2 9 0)]))] := hD
          have hq_1540 := hw
          refine W.widen (k := 258) (n := 111962) (by decide) (by decide) ?_
          refine lv_istore (lv' := [(6, .int r_31), (5, .int 1), (4, .int 0), (3, .ref ou), (2, .ref mo), (1, .ref h0), (0, .ref b)]) hx hb dL_law_1543 hl (by decide) rfl (fun ls hl => ?_)
          refine lv_aload_n hx hb dL_law_1545 rfl (lv_at hl 4 rfl) ?_
          have hPc := hP.sub (ws' := [(mo, .inr (9, [.int (u_32.2 0 0), .int (u_32.2 1 0), .ref g2, .ref g3, .ref g4, .ref g5, .ref g6, .ref g7, .ref g8, .ref g9, .ref g10, .ref g11, .ref g12, .ref g13, .ref g14, .ref g15, .ref g16, .ref g17, .ref g18, .ref g19, .int (u_32.2 2 0), .int (u_32.2 3 0), .ref g22, .int (u_32.2 4 0), .ref g24, .int (u_32.2 5 0), .int (u_32.2 6 0), .int (u_32.2 7 0), .ref g28, .ref g29, .int (u_32.2 8 0), .int (u_32.2 9 0)]))]) [1] rfl
          have hDc := hD.sub (ws' := [(mo, .inr (9, [.int (u_32.2 0 0), .int (u_32.2 1 0), .ref g2, .ref g3, .ref g4, .ref g5, .ref g6, .ref g7, .ref g8, .ref g9, .ref g10, .ref g11, .ref g12, .ref g13, .ref g14, .ref g15, .ref g16, .ref g17, .ref g18, .ref g19, .int (u_32.2 2 0), .int (u_32.2 3 0), .ref g22, .int (u_32.2 4 0), .ref g24, .int (u_32.2 5 0), .int (u_32.2 6 0), .int (u_32.2 7 0), .ref g28, .ref g29, .int (u_32.2 8 0), .int (u_32.2 9 0)]))]) [1] (by decide) rfl
          have hFc := va_free (wc := [(mo, .inr (9, [.int (u_32.2 0 0), .int (u_32.2 1 0), .ref g2, .ref g3, .ref g4, .ref g5, .ref g6, .ref g7, .ref g8, .ref g9, .ref g10, .ref g11, .ref g12, .ref g13, .ref g14, .ref g15, .ref g16, .ref g17, .ref g18, .ref g19, .int (u_32.2 2 0), .int (u_32.2 3 0), .ref g22, .int (u_32.2 4 0), .ref g24, .int (u_32.2 5 0), .int (u_32.2 6 0), .int (u_32.2 7 0), .ref g28, .ref g29, .int (u_32.2 8 0), .int (u_32.2 9 0)]))]) hD hS hA [1] rfl
          refine va_calli (va_runV (As := []) (rest := []) ⟨hx, hb, hml, hown, ht⟩ (k9_thrown l D C s.heap.size H.size mo g2 g3 g4 g5 g6 g7 g8 g9 g10 g11 g12 g13 g14 g15 g16 g17 g18 g19 g22 g24 g28 g29 (u_32.2 0 0) (u_32.2 1 0) (u_32.2 2 0) (u_32.2 3 0) (u_32.2 4 0) (u_32.2 5 0) (u_32.2 6 0) (u_32.2 7 0) (u_32.2 8 0) (u_32.2 9 0)) (cwV 0 ht (xg_V m_562 m_563 m_564 m_391 m_221) rfl rfl rfl (by decide +kernel) ⟨Nat.le_of_ble_eq_true rfl, Nat.le_of_ble_eq_true rfl⟩) ⟨xPc_bl, va_recv hK hPc (ci := 9) (q0 := 0) rfl rfl, xPc_at hPc hK hDc hE hS hAb⟩ rfl rfl hl.1 rfl (lv_room (Nat.le_of_ble_eq_true rfl)) dL_law_1546 ⟨(by decide), (by decide)⟩) hS (fun q _ h => hFc q h) hFc (fun r_33 u_34 t H1 locs ht1 hvm hw hB hz1 hk1 hS => ?_)
          obtain ⟨hP1, hD1⟩ := hB
          rw [ht1] at hP1
          try dsimp only at hw
          obtain ⟨hP, hD⟩ := va_join (wr := [(ou, .inl (C 2, 1, .inr (.inl (u_27))))]) (w1 := [(mo, .inr (9, [.int (u_32.2 0 0), .int (u_32.2 1 0), .ref g2, .ref g3, .ref g4, .ref g5, .ref g6, .ref g7, .ref g8, .ref g9, .ref g10, .ref g11, .ref g12, .ref g13, .ref g14, .ref g15, .ref g16, .ref g17, .ref g18, .ref g19, .int (u_32.2 2 0), .int (u_32.2 3 0), .ref g22, .int (u_32.2 4 0), .ref g24, .int (u_32.2 5 0), .int (u_32.2 6 0), .int (u_32.2 7 0), .ref g28, .ref g29, .int (u_32.2 8 0), .int (u_32.2 9 0)]))]) hP hD [1] [0] rfl rfl (by decide) (by decide) hk1 hFc hP1 hD1
          generalize H1 = H at hP hS ⊢
          have hP : va_P D vwCl [(ou, .inl (C 2, 1, .inr (.inl (u_27)))), (mo, .inr (9, [.int (u_32.2 0 0), .int (u_32.2 1 0), .ref g2, .ref g3, .ref g4, .ref g5, .ref g6, .ref g7, .ref g8, .ref g9, .ref g10, .ref g11, .ref g12, .ref g13, .ref g14, .ref g15, .ref g16, .ref g17, .ref g18, .ref g19, .int (u_32.2 2 0), .int (u_32.2 3 0), .ref g22, .int (u_32.2 4 0), .ref g24, .int (u_32.2 5 0), .int (u_32.2 6 0), .int (u_32.2 7 0), .ref g28, .ref g29, .int (u_32.2 8 0), .int (u_32.2 9 0)]))] H := hP
          have hD : va_D A [(ou, .inl (C 2, 1, .inr (.inl (u_27)))), (mo, .inr (9, [.int (u_32.2 0 0), .int (u_32.2 1 0), .ref g2, .ref g3, .ref g4, .ref g5, .ref g6, .ref g7, .ref g8, .ref g9, .ref g10, .ref g11, .ref g12, .ref g13, .ref g14, .ref g15, .ref g16, .ref g17, .ref g18, .ref g19, .int (u_32.2 2 0), .int (u_32.2 3 0), .ref g22, .int (u_32.2 4 0), .ref g24, .int (u_32.2 5 0), .int (u_32.2 6 0), .int (u_32.2 7 0), .ref g28, .ref g29, .int (u_32.2 8 0), .int (u_32.2 9 0)]))] := hD
          have hq_1546 := hw
          obtain rfl : r_33 = (1 : Int32) := hw.trans hq_1540
          refine lv_iload hx hb dL_law_1549 (lv_at hl 1 rfl) ?_
          refine lv_icmp_eq (tgt := 1556) hx hb dL_law_1551 (by decide) (fun c_1551 => ?_) (fun c_1551 => ?_)
          rotate_left
          · exact absurd c_1551 (by decide)
          refine lv_iload hx hb dL_law_1556 (lv_at hl 1 rfl) ?_
          refine lv_if_ne (tgt := 1580) hx hb dL_law_1558 (by decide) (fun c_1558 => ?_) (fun c_1558 => ?_)
          rotate_left
          · exact absurd c_1558 (by decide)
          refine lv_goto (tgt := 1732) hx hb dL_law_1580 (by decide) ?_
          exact lc_end ⟨hl0, hx, hb, hr, hml, hown, ht, hX, hbl, hlocks, hK, hE, hA, hAs, hbA⟩ (by decide) (by decide) hS (lv_sub hl [2, 6] rfl)
        · skip
          refine lv_iconst (v := 1) hx hb dL_law_1535 (by decide) ?_
          refine lv_goto (tgt := 1540) hx hb dL_law_1536 (by decide) ?_
          have hPc := hP.sub (ws' := [(mo, .inr (9, [.int 0, .int 0, .ref g2, .ref g3, .ref g4, .ref g5, .ref g6, .ref g7, .ref g8, .ref g9, .ref g10, .ref g11, .ref g12, .ref g13, .ref g14, .ref g15, .ref g16, .ref g17, .ref g18, .ref g19, .int 0, .int 0, .ref g22, .int 0, .ref g24, .int 0, .int 0, .int (-1), .ref g28, .ref g29, .int 0, .int 0]))]) [0] rfl
          have hDc := hD.sub (ws' := [(mo, .inr (9, [.int 0, .int 0, .ref g2, .ref g3, .ref g4, .ref g5, .ref g6, .ref g7, .ref g8, .ref g9, .ref g10, .ref g11, .ref g12, .ref g13, .ref g14, .ref g15, .ref g16, .ref g17, .ref g18, .ref g19, .int 0, .int 0, .ref g22, .int 0, .ref g24, .int 0, .int 0, .int (-1), .ref g28, .ref g29, .int 0, .int 0]))]) [0] (by decide) rfl
          have hFc := va_free (wc := [(mo, .inr (9, [.int 0, .int 0, .ref g2, .ref g3, .ref g4, .ref g5, .ref g6, .ref g7, .ref g8, .ref g9, .ref g10, .ref g11, .ref g12, .ref g13, .ref g14, .ref g15, .ref g16, .ref g17, .ref g18, .ref g19, .int 0, .int 0, .ref g22, .int 0, .ref g24, .int 0, .int 0, .int (-1), .ref g28, .ref g29, .int 0, .int 0]))]) hD hS hA [0] rfl
          refine va_calli (vx_runVW (As := [.int (xs (Int32.toNatClampNeg 1)), .int 0, .int 1]) (rest := []) ⟨hx, hb, hml, hown, ht⟩ (k9p_level l D C s.heap.size H.size mo g2 g3 g4 g5 g6 g7 g8 g9 g10 g11 g12 g13 g14 g15 g16 g17 g18 g19 g22 g24 g28 g29 ((xs (Int32.toNatClampNeg 1))) 0 1) (vx_cwVW 3 ht (xg_V m_647 m_648 m_649 m_391 m_241) rfl rfl rfl (by decide +kernel) ⟨Nat.le_of_ble_eq_true rfl, Nat.le_of_ble_eq_true rfl⟩) ⟨xPc_bl, va_recv hK hPc (ci := 9) (q0 := 0) rfl rfl, xPc_at hPc hK hDc hE hS hAb⟩ rfl rfl hl.1 rfl (lv_room (Nat.le_of_ble_eq_true rfl)) dL_law_1540 ⟨(by decide), (by decide)⟩) hS (fun q _ h => hFc q h) hFc (fun r_35 u_36 t H1 locs ht1 hvm hw hB hz1 hk1 hS => ?_)
          obtain ⟨hP1, hD1⟩ := hB
          rw [ht1] at hP1
          try dsimp only at hw
          obtain ⟨hP, hD⟩ := va_join (wr := [(ou, .inl (C 2, 1, .inr (.inl (u_27))))]) (w1 := [(mo, .inr (9, [.int (u_36.2 0 0), .int (u_36.2 1 0), .ref g2, .ref g3, .ref g4, .ref g5, .ref g6, .ref g7, .ref g8, .ref g9, .ref g10, .ref g11, .ref g12, .ref g13, .ref g14, .ref g15, .ref g16, .ref g17, .ref g18, .ref g19, .int (u_36.2 2 0), .int (u_36.2 3 0), .ref g22, .int (u_36.2 4 0), .ref g24, .int (u_36.2 5 0), .int (u_36.2 6 0), .int (u_36.2 7 0), .ref g28, .ref g29, .int (u_36.2 8 0), .int (u_36.2 9 0)]))]) hP hD [0] [1] rfl rfl (by decide) (by decide) hk1 hFc hP1 hD1
          generalize H1 = H at hP hS ⊢
          have hP : va_P D vwCl [(ou, .inl (C 2, 1, .inr (.inl (u_27)))), (mo, .inr (9, [.int (u_36.2 0 0), .int (u_36.2 1 0), .ref g2, .ref g3, .ref g4, .ref g5, .ref g6, .ref g7, .ref g8, .ref g9, .ref g10, .ref g11, .ref g12, .ref g13, .ref g14, .ref g15, .ref g16, .ref g17, .ref g18, .ref g19, .int (u_36.2 2 0), .int (u_36.2 3 0), .ref g22, .int (u_36.2 4 0), .ref g24, .int (u_36.2 5 0), .int (u_36.2 6 0), .int (u_36.2 7 0), .ref g28, .ref g29, .int (u_36.2 8 0), .int (u_36.2 9 0)]))] H := hP
          have hD : va_D A [(ou, .inl (C 2, 1, .inr (.inl (u_27)))), (mo, .inr (9, [.int (u_36.2 0 0), .int (u_36.2 1 0), .ref g2, .ref g3, .ref g4, .ref g5, .ref g6, .ref g7, .ref g8, .ref g9, .ref g10, .ref g11, .ref g12, .ref g13, .ref g14, .ref g15, .ref g16, .ref g17, .ref g18, .ref g19, .int (u_36.2 2 0), .int (u_36.2 3 0), .ref g22, .int (u_36.2 4 0), .ref g24, .int (u_36.2 5 0), .int (u_36.2 6 0), .int (u_36.2 7 0), .ref g28, .ref g29, .int (u_36.2 8 0), .int (u_36.2 9 0)]))] := hD
          have hq_1540 := hw
          refine W.widen (k := 258) (n := 111962) (by decide) (by decide) ?_
          refine lv_istore (lv' := [(6, .int r_35), (5, .int 1), (4, .int 0), (3, .ref ou), (2, .ref mo), (1, .ref h0), (0, .ref b)]) hx hb dL_law_1543 hl (by decide) rfl (fun ls hl => ?_)
          refine lv_aload_n hx hb dL_law_1545 rfl (lv_at hl 4 rfl) ?_
          have hPc := hP.sub (ws' := [(mo, .inr (9, [.int (u_36.2 0 0), .int (u_36.2 1 0), .ref g2, .ref g3, .ref g4, .ref g5, .ref g6, .ref g7, .ref g8, .ref g9, .ref g10, .ref g11, .ref g12, .ref g13, .ref g14, .ref g15, .ref g16, .ref g17, .ref g18, .ref g19, .int (u_36.2 2 0), .int (u_36.2 3 0), .ref g22, .int (u_36.2 4 0), .ref g24, .int (u_36.2 5 0), .int (u_36.2 6 0), .int (u_36.2 7 0), .ref g28, .ref g29, .int (u_36.2 8 0), .int (u_36.2 9 0)]))]) [1] rfl
          have hDc := hD.sub (ws' := [(mo, .inr (9, [.int (u_36.2 0 0), .int (u_36.2 1 0), .ref g2, .ref g3, .ref g4, .ref g5, .ref g6, .ref g7, .ref g8, .ref g9, .ref g10, .ref g11, .ref g12, .ref g13, .ref g14, .ref g15, .ref g16, .ref g17, .ref g18, .ref g19, .int (u_36.2 2 0), .int (u_36.2 3 0), .ref g22, .int (u_36.2 4 0), .ref g24, .int (u_36.2 5 0), .int (u_36.2 6 0), .int (u_36.2 7 0), .ref g28, .ref g29, .int (u_36.2 8 0), .int (u_36.2 9 0)]))]) [1] (by decide) rfl
          have hFc := va_free (wc := [(mo, .inr (9, [.int (u_36.2 0 0), .int (u_36.2 1 0), .ref g2, .ref g3, .ref g4, .ref g5, .ref g6, .ref g7, .ref g8, .ref g9, .ref g10, .ref g11, .ref g12, .ref g13, .ref g14, .ref g15, .ref g16, .ref g17, .ref g18, .ref g19, .int (u_36.2 2 0), .int (u_36.2 3 0), .ref g22, .int (u_36.2 4 0), .ref g24, .int (u_36.2 5 0), .int (u_36.2 6 0), .int (u_36.2 7 0), .ref g28, .ref g29, .int (u_36.2 8 0), .int (u_36.2 9 0)]))]) hD hS hA [1] rfl
          refine va_calli (va_runV (As := []) (rest := []) ⟨hx, hb, hml, hown, ht⟩ (k9_thrown l D C s.heap.size H.size mo g2 g3 g4 g5 g6 g7 g8 g9 g10 g11 g12 g13 g14 g15 g16 g17 g18 g19 g22 g24 g28 g29 (u_36.2 0 0) (u_36.2 1 0) (u_36.2 2 0) (u_36.2 3 0) (u_36.2 4 0) (u_36.2 5 0) (u_36.2 6 0) (u_36.2 7 0) (u_36.2 8 0) (u_36.2 9 0)) (cwV 0 ht (xg_V m_562 m_563 m_564 m_391 m_221) rfl rfl rfl (by decide +kernel) ⟨Nat.le_of_ble_eq_true rfl, Nat.le_of_ble_eq_true rfl⟩) ⟨xPc_bl, va_recv hK hPc (ci := 9) (q0 := 0) rfl rfl, xPc_at hPc hK hDc hE hS hAb⟩ rfl rfl hl.1 rfl (lv_room (Nat.le_of_ble_eq_true rfl)) dL_law_1546 ⟨(by decide), (by decide)⟩) hS (fun q _ h => hFc q h) hFc (fun r_37 u_38 t H1 locs ht1 hvm hw hB hz1 hk1 hS => ?_)
          obtain ⟨hP1, hD1⟩ := hB
          rw [ht1] at hP1
          try dsimp only at hw
          obtain ⟨hP, hD⟩ := va_join (wr := [(ou, .inl (C 2, 1, .inr (.inl (u_27))))]) (w1 := [(mo, .inr (9, [.int (u_36.2 0 0), .int (u_36.2 1 0), .ref g2, .ref g3, .ref g4, .ref g5, .ref g6, .ref g7, .ref g8, .ref g9, .ref g10, .ref g11, .ref g12, .ref g13, .ref g14, .ref g15, .ref g16, .ref g17, .ref g18, .ref g19, .int (u_36.2 2 0), .int (u_36.2 3 0), .ref g22, .int (u_36.2 4 0), .ref g24, .int (u_36.2 5 0), .int (u_36.2 6 0), .int (u_36.2 7 0), .ref g28, .ref g29, .int (u_36.2 8 0), .int (u_36.2 9 0)]))]) hP hD [1] [0] rfl rfl (by decide) (by decide) hk1 hFc hP1 hD1
          generalize H1 = H at hP hS ⊢
          have hP : va_P D vwCl [(ou, .inl (C 2, 1, .inr (.inl (u_27)))), (mo, .inr (9, [.int (u_36.2 0 0), .int (u_36.2 1 0), .ref g2, .ref g3, .ref g4, .ref g5, .ref g6, .ref g7, .ref g8, .ref g9, .ref g10, .ref g11, .ref g12, .ref g13, .ref g14, .ref g15, .ref g16, .ref g17, .ref g18, .ref g19, .int (u_36.2 2 0), .int (u_36.2 3 0), .ref g22, .int (u_36.2 4 0), .ref g24, .int (u_36.2 5 0), .int (u_36.2 6 0), .int (u_36.2 7 0), .ref g28, .ref g29, .int (u_36.2 8 0), .int (u_36.2 9 0)]))] H := hP
          have hD : va_D A [(ou, .inl (C 2, 1, .inr (.inl (u_27)))), (mo, .inr (9, [.int (u_36.2 0 0), .int (u_36.2 1 0), .ref g2, .ref g3, .ref g4, .ref g5, .ref g6, .ref g7, .ref g8, .ref g9, .ref g10, .ref g11, .ref g12, .ref g13, .ref g14, .ref g15, .ref g16, .ref g17, .ref g18, .ref g19, .int (u_36.2 2 0), .int (u_36.2 3 0), .ref g22, .int (u_36.2 4 0), .ref g24, .int (u_36.2 5 0), .int (u_36.2 6 0), .int (u_36.2 7 0), .ref g28, .ref g29, .int (u_36.2 8 0), .int (u_36.2 9 0)]))] := hD
          have hq_1546 := hw
          obtain rfl : r_37 = (1 : Int32) := hw.trans hq_1540
          refine lv_iload hx hb dL_law_1549 (lv_at hl 1 rfl) ?_
          refine lv_icmp_eq (tgt := 1556) hx hb dL_law_1551 (by decide) (fun c_1551 => ?_) (fun c_1551 => ?_)
          rotate_left
          · exact absurd c_1551 (by decide)
          refine lv_iload hx hb dL_law_1556 (lv_at hl 1 rfl) ?_
          refine lv_if_ne (tgt := 1580) hx hb dL_law_1558 (by decide) (fun c_1558 => ?_) (fun c_1558 => ?_)
          rotate_left
          · exact absurd c_1558 (by decide)
          refine lv_goto (tgt := 1732) hx hb dL_law_1580 (by decide) ?_
          exact lc_end ⟨hl0, hx, hb, hr, hml, hown, ht, hX, hbl, hlocks, hK, hE, hA, hAs, hbA⟩ (by decide) (by decide) hS (lv_sub hl [2, 6] rfl)
      · skip
        refine lv_iconst (v := 1) hx hb dL_law_1521 (by decide) ?_
        refine lv_goto (tgt := 1526) hx hb dL_law_1522 (by decide) ?_
        refine lv_aload_n hx hb dL_law_1526 rfl (lv_at hl 5 rfl) ?_
        refine lv_iload hx hb dL_law_1527 (lv_at hl 1 rfl) ?_
        refine lv_iconst (v := 3) hx hb dL_law_1529 (by decide) ?_
        refine lv_iadd hx hb dL_law_1530 ?_
        refine lv_topi (fun x_39 ex_39 => ?_)
        obtain rfl : x_39 = (3 : Int32) := ex_39.trans (by decide)
        refine va_sld hx hb hX hbl hbA hS (by unfold vp_in; decide) dL_law_1531 ?_
        refine lv_if_eq (tgt := 1539) hx hb dL_law_1532 (by decide) (fun c_1532 => ?_) (fun c_1532 => ?_)
        · skip
          refine lv_iconst (v := 0) hx hb dL_law_1539 (by decide) ?_
          have hPc := hP.sub (ws' := [(mo, .inr (9, [.int 0, .int 0, .ref g2, .ref g3, .ref g4, .ref g5, .ref g6, .ref g7, .ref g8, .ref g9, .ref g10, .ref g11, .ref g12, .ref g13, .ref g14, .ref g15, .ref g16, .ref g17, .ref g18, .ref g19, .int 0, .int 0, .ref g22, .int 0, .ref g24, .int 0, .int 0, .int (-1), .ref g28, .ref g29, .int 0, .int 0]))]) [0] rfl
          have hDc := hD.sub (ws' := [(mo, .inr (9, [.int 0, .int 0, .ref g2, .ref g3, .ref g4, .ref g5, .ref g6, .ref g7, .ref g8, .ref g9, .ref g10, .ref g11, .ref g12, .ref g13, .ref g14, .ref g15, .ref g16, .ref g17, .ref g18, .ref g19, .int 0, .int 0, .ref g22, .int 0, .ref g24, .int 0, .int 0, .int (-1), .ref g28, .ref g29, .int 0, .int 0]))]) [0] (by decide) rfl
          have hFc := va_free (wc := [(mo, .inr (9, [.int 0, .int 0, .ref g2, .ref g3, .ref g4, .ref g5, .ref g6, .ref g7, .ref g8, .ref g9, .ref g10, .ref g11, .ref g12, .ref g13, .ref g14, .ref g15, .ref g16, .ref g17, .ref g18, .ref g19, .int 0, .int 0, .ref g22, .int 0, .ref g24, .int 0, .int 0, .int (-1), .ref g28, .ref g29, .int 0, .int 0]))]) hD hS hA [0] rfl
          refine va_calli (vx_runVW (As := [.int (xs (Int32.toNatClampNeg 1)), .int 1, .int 0]) (rest := []) ⟨hx, hb, hml, hown, ht⟩ (k9p_level l D C s.heap.size H.size mo g2 g3 g4 g5 g6 g7 g8 g9 g10 g11 g12 g13 g14 g15 g16 g17 g18 g19 g22 g24 g28 g29 ((xs (Int32.toNatClampNeg 1))) 1 0) (vx_cwVW 3 ht (xg_V m_647 m_648 m_649 m_391 m_241) rfl rfl rfl (by decide +kernel) ⟨Nat.le_of_ble_eq_true rfl, Nat.le_of_ble_eq_true rfl⟩) ⟨xPc_bl, va_recv hK hPc (ci := 9) (q0 := 0) rfl rfl, xPc_at hPc hK hDc hE hS hAb⟩ rfl rfl hl.1 rfl (lv_room (Nat.le_of_ble_eq_true rfl)) dL_law_1540 ⟨(by decide), (by decide)⟩) hS (fun q _ h => hFc q h) hFc (fun r_40 u_41 t H1 locs ht1 hvm hw hB hz1 hk1 hS => ?_)
          obtain ⟨hP1, hD1⟩ := hB
          rw [ht1] at hP1
          try dsimp only at hw
          obtain ⟨hP, hD⟩ := va_join (wr := [(ou, .inl (C 2, 1, .inr (.inl (u_27))))]) (w1 := [(mo, .inr (9, [.int (u_41.2 0 0), .int (u_41.2 1 0), .ref g2, .ref g3, .ref g4, .ref g5, .ref g6, .ref g7, .ref g8, .ref g9, .ref g10, .ref g11, .ref g12, .ref g13, .ref g14, .ref g15, .ref g16, .ref g17, .ref g18, .ref g19, .int (u_41.2 2 0), .int (u_41.2 3 0), .ref g22, .int (u_41.2 4 0), .ref g24, .int (u_41.2 5 0), .int (u_41.2 6 0), .int (u_41.2 7 0), .ref g28, .ref g29, .int (u_41.2 8 0), .int (u_41.2 9 0)]))]) hP hD [0] [1] rfl rfl (by decide) (by decide) hk1 hFc hP1 hD1
          generalize H1 = H at hP hS ⊢
          have hP : va_P D vwCl [(ou, .inl (C 2, 1, .inr (.inl (u_27)))), (mo, .inr (9, [.int (u_41.2 0 0), .int (u_41.2 1 0), .ref g2, .ref g3, .ref g4, .ref g5, .ref g6, .ref g7, .ref g8, .ref g9, .ref g10, .ref g11, .ref g12, .ref g13, .ref g14, .ref g15, .ref g16, .ref g17, .ref g18, .ref g19, .int (u_41.2 2 0), .int (u_41.2 3 0), .ref g22, .int (u_41.2 4 0), .ref g24, .int (u_41.2 5 0), .int (u_41.2 6 0), .int (u_41.2 7 0), .ref g28, .ref g29, .int (u_41.2 8 0), .int (u_41.2 9 0)]))] H := hP
          have hD : va_D A [(ou, .inl (C 2, 1, .inr (.inl (u_27)))), (mo, .inr (9, [.int (u_41.2 0 0), .int (u_41.2 1 0), .ref g2, .ref g3, .ref g4, .ref g5, .ref g6, .ref g7, .ref g8, .ref g9, .ref g10, .ref g11, .ref g12, .ref g13, .ref g14, .ref g15, .ref g16, .ref g17, .ref g18, .ref g19, .int (u_41.2 2 0), .int (u_41.2 3 0), .ref g22, .int (u_41.2 4 0), .ref g24, .int (u_41.2 5 0), .int (u_41.2 6 0), .int (u_41.2 7 0), .ref g28, .ref g29, .int (u_41.2 8 0), .int (u_41.2 9 0)]))] := hD
          have hq_1540 := hw
          refine W.widen (k := 258) (n := 111962) (by decide) (by decide) ?_
          refine lv_istore (lv' := [(6, .int r_40), (5, .int 1), (4, .int 0), (3, .ref ou), (2, .ref mo), (1, .ref h0), (0, .ref b)]) hx hb dL_law_1543 hl (by decide) rfl (fun ls hl => ?_)
          refine lv_aload_n hx hb dL_law_1545 rfl (lv_at hl 4 rfl) ?_
          have hPc := hP.sub (ws' := [(mo, .inr (9, [.int (u_41.2 0 0), .int (u_41.2 1 0), .ref g2, .ref g3, .ref g4, .ref g5, .ref g6, .ref g7, .ref g8, .ref g9, .ref g10, .ref g11, .ref g12, .ref g13, .ref g14, .ref g15, .ref g16, .ref g17, .ref g18, .ref g19, .int (u_41.2 2 0), .int (u_41.2 3 0), .ref g22, .int (u_41.2 4 0), .ref g24, .int (u_41.2 5 0), .int (u_41.2 6 0), .int (u_41.2 7 0), .ref g28, .ref g29, .int (u_41.2 8 0), .int (u_41.2 9 0)]))]) [1] rfl
          have hDc := hD.sub (ws' := [(mo, .inr (9, [.int (u_41.2 0 0), .int (u_41.2 1 0), .ref g2, .ref g3, .ref g4, .ref g5, .ref g6, .ref g7, .ref g8, .ref g9, .ref g10, .ref g11, .ref g12, .ref g13, .ref g14, .ref g15, .ref g16, .ref g17, .ref g18, .ref g19, .int (u_41.2 2 0), .int (u_41.2 3 0), .ref g22, .int (u_41.2 4 0), .ref g24, .int (u_41.2 5 0), .int (u_41.2 6 0), .int (u_41.2 7 0), .ref g28, .ref g29, .int (u_41.2 8 0), .int (u_41.2 9 0)]))]) [1] (by decide) rfl
          have hFc := va_free (wc := [(mo, .inr (9, [.int (u_41.2 0 0), .int (u_41.2 1 0), .ref g2, .ref g3, .ref g4, .ref g5, .ref g6, .ref g7, .ref g8, .ref g9, .ref g10, .ref g11, .ref g12, .ref g13, .ref g14, .ref g15, .ref g16, .ref g17, .ref g18, .ref g19, .int (u_41.2 2 0), .int (u_41.2 3 0), .ref g22, .int (u_41.2 4 0), .ref g24, .int (u_41.2 5 0), .int (u_41.2 6 0), .int (u_41.2 7 0), .ref g28, .ref g29, .int (u_41.2 8 0), .int (u_41.2 9 0)]))]) hD hS hA [1] rfl
          refine va_calli (va_runV (As := []) (rest := []) ⟨hx, hb, hml, hown, ht⟩ (k9_thrown l D C s.heap.size H.size mo g2 g3 g4 g5 g6 g7 g8 g9 g10 g11 g12 g13 g14 g15 g16 g17 g18 g19 g22 g24 g28 g29 (u_41.2 0 0) (u_41.2 1 0) (u_41.2 2 0) (u_41.2 3 0) (u_41.2 4 0) (u_41.2 5 0) (u_41.2 6 0) (u_41.2 7 0) (u_41.2 8 0) (u_41.2 9 0)) (cwV 0 ht (xg_V m_562 m_563 m_564 m_391 m_221) rfl rfl rfl (by decide +kernel) ⟨Nat.le_of_ble_eq_true rfl, Nat.le_of_ble_eq_true rfl⟩) ⟨xPc_bl, va_recv hK hPc (ci := 9) (q0 := 0) rfl rfl, xPc_at hPc hK hDc hE hS hAb⟩ rfl rfl hl.1 rfl (lv_room (Nat.le_of_ble_eq_true rfl)) dL_law_1546 ⟨(by decide), (by decide)⟩) hS (fun q _ h => hFc q h) hFc (fun r_42 u_43 t H1 locs ht1 hvm hw hB hz1 hk1 hS => ?_)
          obtain ⟨hP1, hD1⟩ := hB
          rw [ht1] at hP1
          try dsimp only at hw
          obtain ⟨hP, hD⟩ := va_join (wr := [(ou, .inl (C 2, 1, .inr (.inl (u_27))))]) (w1 := [(mo, .inr (9, [.int (u_41.2 0 0), .int (u_41.2 1 0), .ref g2, .ref g3, .ref g4, .ref g5, .ref g6, .ref g7, .ref g8, .ref g9, .ref g10, .ref g11, .ref g12, .ref g13, .ref g14, .ref g15, .ref g16, .ref g17, .ref g18, .ref g19, .int (u_41.2 2 0), .int (u_41.2 3 0), .ref g22, .int (u_41.2 4 0), .ref g24, .int (u_41.2 5 0), .int (u_41.2 6 0), .int (u_41.2 7 0), .ref g28, .ref g29, .int (u_41.2 8 0), .int (u_41.2 9 0)]))]) hP hD [1] [0] rfl rfl (by decide) (by decide) hk1 hFc hP1 hD1
          generalize H1 = H at hP hS ⊢
          have hP : va_P D vwCl [(ou, .inl (C 2, 1, .inr (.inl (u_27)))), (mo, .inr (9, [.int (u_41.2 0 0), .int (u_41.2 1 0), .ref g2, .ref g3, .ref g4, .ref g5, .ref g6, .ref g7, .ref g8, .ref g9, .ref g10, .ref g11, .ref g12, .ref g13, .ref g14, .ref g15, .ref g16, .ref g17, .ref g18, .ref g19, .int (u_41.2 2 0), .int (u_41.2 3 0), .ref g22, .int (u_41.2 4 0), .ref g24, .int (u_41.2 5 0), .int (u_41.2 6 0), .int (u_41.2 7 0), .ref g28, .ref g29, .int (u_41.2 8 0), .int (u_41.2 9 0)]))] H := hP
          have hD : va_D A [(ou, .inl (C 2, 1, .inr (.inl (u_27)))), (mo, .inr (9, [.int (u_41.2 0 0), .int (u_41.2 1 0), .ref g2, .ref g3, .ref g4, .ref g5, .ref g6, .ref g7, .ref g8, .ref g9, .ref g10, .ref g11, .ref g12, .ref g13, .ref g14, .ref g15, .ref g16, .ref g17, .ref g18, .ref g19, .int (u_41.2 2 0), .int (u_41.2 3 0), .ref g22, .int (u_41.2 4 0), .ref g24, .int (u_41.2 5 0), .int (u_41.2 6 0), .int (u_41.2 7 0), .ref g28, .ref g29, .int (u_41.2 8 0), .int (u_41.2 9 0)]))] := hD
          have hq_1546 := hw
          obtain rfl : r_42 = (1 : Int32) := hw.trans hq_1540
          refine lv_iload hx hb dL_law_1549 (lv_at hl 1 rfl) ?_
          refine lv_icmp_eq (tgt := 1556) hx hb dL_law_1551 (by decide) (fun c_1551 => ?_) (fun c_1551 => ?_)
          rotate_left
          · exact absurd c_1551 (by decide)
          refine lv_iload hx hb dL_law_1556 (lv_at hl 1 rfl) ?_
          refine lv_if_ne (tgt := 1580) hx hb dL_law_1558 (by decide) (fun c_1558 => ?_) (fun c_1558 => ?_)
          rotate_left
          · exact absurd c_1558 (by decide)
          refine lv_goto (tgt := 1732) hx hb dL_law_1580 (by decide) ?_
          exact lc_end ⟨hl0, hx, hb, hr, hml, hown, ht, hX, hbl, hlocks, hK, hE, hA, hAs, hbA⟩ (by decide) (by decide) hS (lv_sub hl [2, 6] rfl)
        · skip
          refine lv_iconst (v := 1) hx hb dL_law_1535 (by decide) ?_
          refine lv_goto (tgt := 1540) hx hb dL_law_1536 (by decide) ?_
          have hPc := hP.sub (ws' := [(mo, .inr (9, [.int 0, .int 0, .ref g2, .ref g3, .ref g4, .ref g5, .ref g6, .ref g7, .ref g8, .ref g9, .ref g10, .ref g11, .ref g12, .ref g13, .ref g14, .ref g15, .ref g16, .ref g17, .ref g18, .ref g19, .int 0, .int 0, .ref g22, .int 0, .ref g24, .int 0, .int 0, .int (-1), .ref g28, .ref g29, .int 0, .int 0]))]) [0] rfl
          have hDc := hD.sub (ws' := [(mo, .inr (9, [.int 0, .int 0, .ref g2, .ref g3, .ref g4, .ref g5, .ref g6, .ref g7, .ref g8, .ref g9, .ref g10, .ref g11, .ref g12, .ref g13, .ref g14, .ref g15, .ref g16, .ref g17, .ref g18, .ref g19, .int 0, .int 0, .ref g22, .int 0, .ref g24, .int 0, .int 0, .int (-1), .ref g28, .ref g29, .int 0, .int 0]))]) [0] (by decide) rfl
          have hFc := va_free (wc := [(mo, .inr (9, [.int 0, .int 0, .ref g2, .ref g3, .ref g4, .ref g5, .ref g6, .ref g7, .ref g8, .ref g9, .ref g10, .ref g11, .ref g12, .ref g13, .ref g14, .ref g15, .ref g16, .ref g17, .ref g18, .ref g19, .int 0, .int 0, .ref g22, .int 0, .ref g24, .int 0, .int 0, .int (-1), .ref g28, .ref g29, .int 0, .int 0]))]) hD hS hA [0] rfl
          refine va_calli (vx_runVW (As := [.int (xs (Int32.toNatClampNeg 1)), .int 1, .int 1]) (rest := []) ⟨hx, hb, hml, hown, ht⟩ (k9p_level l D C s.heap.size H.size mo g2 g3 g4 g5 g6 g7 g8 g9 g10 g11 g12 g13 g14 g15 g16 g17 g18 g19 g22 g24 g28 g29 ((xs (Int32.toNatClampNeg 1))) 1 1) (vx_cwVW 3 ht (xg_V m_647 m_648 m_649 m_391 m_241) rfl rfl rfl (by decide +kernel) ⟨Nat.le_of_ble_eq_true rfl, Nat.le_of_ble_eq_true rfl⟩) ⟨xPc_bl, va_recv hK hPc (ci := 9) (q0 := 0) rfl rfl, xPc_at hPc hK hDc hE hS hAb⟩ rfl rfl hl.1 rfl (lv_room (Nat.le_of_ble_eq_true rfl)) dL_law_1540 ⟨(by decide), (by decide)⟩) hS (fun q _ h => hFc q h) hFc (fun r_44 u_45 t H1 locs ht1 hvm hw hB hz1 hk1 hS => ?_)
          obtain ⟨hP1, hD1⟩ := hB
          rw [ht1] at hP1
          try dsimp only at hw
          obtain ⟨hP, hD⟩ := va_join (wr := [(ou, .inl (C 2, 1, .inr (.inl (u_27))))]) (w1 := [(mo, .inr (9, [.int (u_45.2 0 0), .int (u_45.2 1 0), .ref g2, .ref g3, .ref g4, .ref g5, .ref g6, .ref g7, .ref g8, .ref g9, .ref g10, .ref g11, .ref g12, .ref g13, .ref g14, .ref g15, .ref g16, .ref g17, .ref g18, .ref g19, .int (u_45.2 2 0), .int (u_45.2 3 0), .ref g22, .int (u_45.2 4 0), .ref g24, .int (u_45.2 5 0), .int (u_45.2 6 0), .int (u_45.2 7 0), .ref g28, .ref g29, .int (u_45.2 8 0), .int (u_45.2 9 0)]))]) hP hD [0] [1] rfl rfl (by decide) (by decide) hk1 hFc hP1 hD1
          generalize H1 = H at hP hS ⊢
          have hP : va_P D vwCl [(ou, .inl (C 2, 1, .inr (.inl (u_27)))), (mo, .inr (9, [.int (u_45.2 0 0), .int (u_45.2 1 0), .ref g2, .ref g3, .ref g4, .ref g5, .ref g6, .ref g7, .ref g8, .ref g9, .ref g10, .ref g11, .ref g12, .ref g13, .ref g14, .ref g15, .ref g16, .ref g17, .ref g18, .ref g19, .int (u_45.2 2 0), .int (u_45.2 3 0), .ref g22, .int (u_45.2 4 0), .ref g24, .int (u_45.2 5 0), .int (u_45.2 6 0), .int (u_45.2 7 0), .ref g28, .ref g29, .int (u_45.2 8 0), .int (u_45.2 9 0)]))] H := hP
          have hD : va_D A [(ou, .inl (C 2, 1, .inr (.inl (u_27)))), (mo, .inr (9, [.int (u_45.2 0 0), .int (u_45.2 1 0), .ref g2, .ref g3, .ref g4, .ref g5, .ref g6, .ref g7, .ref g8, .ref g9, .ref g10, .ref g11, .ref g12, .ref g13, .ref g14, .ref g15, .ref g16, .ref g17, .ref g18, .ref g19, .int (u_45.2 2 0), .int (u_45.2 3 0), .ref g22, .int (u_45.2 4 0), .ref g24, .int (u_45.2 5 0), .int (u_45.2 6 0), .int (u_45.2 7 0), .ref g28, .ref g29, .int (u_45.2 8 0), .int (u_45.2 9 0)]))] := hD
          have hq_1540 := hw
          refine W.widen (k := 258) (n := 111962) (by decide) (by decide) ?_
          refine lv_istore (lv' := [(6, .int r_44), (5, .int 1), (4, .int 0), (3, .ref ou), (2, .ref mo), (1, .ref h0), (0, .ref b)]) hx hb dL_law_1543 hl (by decide) rfl (fun ls hl => ?_)
          refine lv_aload_n hx hb dL_law_1545 rfl (lv_at hl 4 rfl) ?_
          have hPc := hP.sub (ws' := [(mo, .inr (9, [.int (u_45.2 0 0), .int (u_45.2 1 0), .ref g2, .ref g3, .ref g4, .ref g5, .ref g6, .ref g7, .ref g8, .ref g9, .ref g10, .ref g11, .ref g12, .ref g13, .ref g14, .ref g15, .ref g16, .ref g17, .ref g18, .ref g19, .int (u_45.2 2 0), .int (u_45.2 3 0), .ref g22, .int (u_45.2 4 0), .ref g24, .int (u_45.2 5 0), .int (u_45.2 6 0), .int (u_45.2 7 0), .ref g28, .ref g29, .int (u_45.2 8 0), .int (u_45.2 9 0)]))]) [1] rfl
          have hDc := hD.sub (ws' := [(mo, .inr (9, [.int (u_45.2 0 0), .int (u_45.2 1 0), .ref g2, .ref g3, .ref g4, .ref g5, .ref g6, .ref g7, .ref g8, .ref g9, .ref g10, .ref g11, .ref g12, .ref g13, .ref g14, .ref g15, .ref g16, .ref g17, .ref g18, .ref g19, .int (u_45.2 2 0), .int (u_45.2 3 0), .ref g22, .int (u_45.2 4 0), .ref g24, .int (u_45.2 5 0), .int (u_45.2 6 0), .int (u_45.2 7 0), .ref g28, .ref g29, .int (u_45.2 8 0), .int (u_45.2 9 0)]))]) [1] (by decide) rfl
          have hFc := va_free (wc := [(mo, .inr (9, [.int (u_45.2 0 0), .int (u_45.2 1 0), .ref g2, .ref g3, .ref g4, .ref g5, .ref g6, .ref g7, .ref g8, .ref g9, .ref g10, .ref g11, .ref g12, .ref g13, .ref g14, .ref g15, .ref g16, .ref g17, .ref g18, .ref g19, .int (u_45.2 2 0), .int (u_45.2 3 0), .ref g22, .int (u_45.2 4 0), .ref g24, .int (u_45.2 5 0), .int (u_45.2 6 0), .int (u_45.2 7 0), .ref g28, .ref g29, .int (u_45.2 8 0), .int (u_45.2 9 0)]))]) hD hS hA [1] rfl
          refine va_calli (va_runV (As := []) (rest := []) ⟨hx, hb, hml, hown, ht⟩ (k9_thrown l D C s.heap.size H.size mo g2 g3 g4 g5 g6 g7 g8 g9 g10 g11 g12 g13 g14 g15 g16 g17 g18 g19 g22 g24 g28 g29 (u_45.2 0 0) (u_45.2 1 0) (u_45.2 2 0) (u_45.2 3 0) (u_45.2 4 0) (u_45.2 5 0) (u_45.2 6 0) (u_45.2 7 0) (u_45.2 8 0) (u_45.2 9 0)) (cwV 0 ht (xg_V m_562 m_563 m_564 m_391 m_221) rfl rfl rfl (by decide +kernel) ⟨Nat.le_of_ble_eq_true rfl, Nat.le_of_ble_eq_true rfl⟩) ⟨xPc_bl, va_recv hK hPc (ci := 9) (q0 := 0) rfl rfl, xPc_at hPc hK hDc hE hS hAb⟩ rfl rfl hl.1 rfl (lv_room (Nat.le_of_ble_eq_true rfl)) dL_law_1546 ⟨(by decide), (by decide)⟩) hS (fun q _ h => hFc q h) hFc (fun r_46 u_47 t H1 locs ht1 hvm hw hB hz1 hk1 hS => ?_)
          obtain ⟨hP1, hD1⟩ := hB
          rw [ht1] at hP1
          try dsimp only at hw
          obtain ⟨hP, hD⟩ := va_join (wr := [(ou, .inl (C 2, 1, .inr (.inl (u_27))))]) (w1 := [(mo, .inr (9, [.int (u_45.2 0 0), .int (u_45.2 1 0), .ref g2, .ref g3, .ref g4, .ref g5, .ref g6, .ref g7, .ref g8, .ref g9, .ref g10, .ref g11, .ref g12, .ref g13, .ref g14, .ref g15, .ref g16, .ref g17, .ref g18, .ref g19, .int (u_45.2 2 0), .int (u_45.2 3 0), .ref g22, .int (u_45.2 4 0), .ref g24, .int (u_45.2 5 0), .int (u_45.2 6 0), .int (u_45.2 7 0), .ref g28, .ref g29, .int (u_45.2 8 0), .int (u_45.2 9 0)]))]) hP hD [1] [0] rfl rfl (by decide) (by decide) hk1 hFc hP1 hD1
          generalize H1 = H at hP hS ⊢
          have hP : va_P D vwCl [(ou, .inl (C 2, 1, .inr (.inl (u_27)))), (mo, .inr (9, [.int (u_45.2 0 0), .int (u_45.2 1 0), .ref g2, .ref g3, .ref g4, .ref g5, .ref g6, .ref g7, .ref g8, .ref g9, .ref g10, .ref g11, .ref g12, .ref g13, .ref g14, .ref g15, .ref g16, .ref g17, .ref g18, .ref g19, .int (u_45.2 2 0), .int (u_45.2 3 0), .ref g22, .int (u_45.2 4 0), .ref g24, .int (u_45.2 5 0), .int (u_45.2 6 0), .int (u_45.2 7 0), .ref g28, .ref g29, .int (u_45.2 8 0), .int (u_45.2 9 0)]))] H := hP
          have hD : va_D A [(ou, .inl (C 2, 1, .inr (.inl (u_27)))), (mo, .inr (9, [.int (u_45.2 0 0), .int (u_45.2 1 0), .ref g2, .ref g3, .ref g4, .ref g5, .ref g6, .ref g7, .ref g8, .ref g9, .ref g10, .ref g11, .ref g12, .ref g13, .ref g14, .ref g15, .ref g16, .ref g17, .ref g18, .ref g19, .int (u_45.2 2 0), .int (u_45.2 3 0), .ref g22, .int (u_45.2 4 0), .ref g24, .int (u_45.2 5 0), .int (u_45.2 6 0), .int (u_45.2 7 0), .ref g28, .ref g29, .int (u_45.2 8 0), .int (u_45.2 9 0)]))] := hD
          have hq_1546 := hw
          obtain rfl : r_46 = (1 : Int32) := hw.trans hq_1540
          refine lv_iload hx hb dL_law_1549 (lv_at hl 1 rfl) ?_
          refine lv_icmp_eq (tgt := 1556) hx hb dL_law_1551 (by decide) (fun c_1551 => ?_) (fun c_1551 => ?_)
          rotate_left
          · exact absurd c_1551 (by decide)
          refine lv_iload hx hb dL_law_1556 (lv_at hl 1 rfl) ?_
          refine lv_if_ne (tgt := 1580) hx hb dL_law_1558 (by decide) (fun c_1558 => ?_) (fun c_1558 => ?_)
          rotate_left
          · exact absurd c_1558 (by decide)
          refine lv_goto (tgt := 1732) hx hb dL_law_1580 (by decide) ?_
          exact lc_end ⟨hl0, hx, hb, hr, hml, hown, ht, hX, hbl, hlocks, hK, hE, hA, hAs, hbA⟩ (by decide) (by decide) hS (lv_sub hl [2, 6] rfl)
  · skip
    refine lv_iconst (v := 1) hx hb dL_law_1480 (by decide) ?_
    refine lv_goto (tgt := 1485) hx hb dL_law_1481 (by decide) ?_
    refine lv_aload_n hx hb dL_law_1485 rfl (lv_at hl 4 rfl) ?_
    refine lv_iload hx hb dL_law_1486 (lv_at hl 0 rfl) ?_
    refine lv_iconst (v := 3) hx hb dL_law_1488 (by decide) ?_
    refine lv_iadd hx hb dL_law_1489 ?_
    refine lv_topi (fun x_48 ex_48 => ?_)
    obtain rfl : x_48 = (3 : Int32) := ex_48.trans (by decide)
    refine va_sld hx hb hX hbl hbA hS (by unfold vp_in; decide) dL_law_1490 ?_
    refine lv_if_eq (tgt := 1498) hx hb dL_law_1491 (by decide) (fun c_1491 => ?_) (fun c_1491 => ?_)
    · skip
      refine lv_iconst (v := 0) hx hb dL_law_1498 (by decide) ?_
      refine lv_aload_n hx hb dL_law_1499 rfl (lv_at hl 1 rfl) ?_
      have hPc := hP.sub (ws' := [(h0, .inr (5, [.ref s0, .ref de, .ref kl, .ref tl, .ref cu, .ref hk, .ref ca, .int 0, .int 0, .int (-1), .int 0, .int 0])), (kl, .inr (2, [.ref kx, .ref ky, .int 0])), (tl, .inr (4, [.ref tx, .ref ty, .int 1])), (s0, .inr (3, [.ref a0, .ref a1, .ref a2, .ref a3, .ref a4, .ref a5, .ref a6, .int 0, .ref a7, .ref a8, .ref a9, .ref a10, .ref a11, .int 0])), (ou, .inl (C 2, 1, .inr (.inl fo)))]) [0, 1, 2, 3, 4] rfl
      have hDc := hD.sub (ws' := [(h0, .inr (5, [.ref s0, .ref de, .ref kl, .ref tl, .ref cu, .ref hk, .ref ca, .int 0, .int 0, .int (-1), .int 0, .int 0])), (kl, .inr (2, [.ref kx, .ref ky, .int 0])), (tl, .inr (4, [.ref tx, .ref ty, .int 1])), (s0, .inr (3, [.ref a0, .ref a1, .ref a2, .ref a3, .ref a4, .ref a5, .ref a6, .int 0, .ref a7, .ref a8, .ref a9, .ref a10, .ref a11, .int 0])), (ou, .inl (C 2, 1, .inr (.inl fo)))]) [0, 1, 2, 3, 4] (by decide) rfl
      have hFc := va_free (wc := [(h0, .inr (5, [.ref s0, .ref de, .ref kl, .ref tl, .ref cu, .ref hk, .ref ca, .int 0, .int 0, .int (-1), .int 0, .int 0])), (kl, .inr (2, [.ref kx, .ref ky, .int 0])), (tl, .inr (4, [.ref tx, .ref ty, .int 1])), (s0, .inr (3, [.ref a0, .ref a1, .ref a2, .ref a3, .ref a4, .ref a5, .ref a6, .int 0, .ref a7, .ref a8, .ref a9, .ref a10, .ref a11, .int 0])), (ou, .inl (C 2, 1, .inr (.inl fo)))]) hD hS hA [0, 1, 2, 3, 4] rfl
      refine va_calli (vx_runSW (As := [.ref h0, .int (xs (Int32.toNatClampNeg 1)), .int 1, .int 0, .ref ou]) (rest := []) ⟨hx, hb, hml, hown, ht⟩ (kL_level l hl0 D C s.heap.size H.size h0 s0 de kl tl cu hk ca kx ky tx ty a0 a1 a2 a3 a4 a5 a6 a7 a8 a9 a10 a11 ((xs (Int32.toNatClampNeg 1))) 1 0 ou fo) (vx_cwSW 5 ht (xg_T m_645 m_646 m_558 m_486) rfl rfl rfl (by decide +kernel) ⟨Nat.le_of_ble_eq_true rfl, Nat.le_of_ble_eq_true rfl⟩) ⟨xPc_bl, xPc_at hPc hK hDc hE hS hAb⟩ rfl rfl hl.1 rfl (lv_room (Nat.le_of_ble_eq_true rfl)) dL_law_1500 ⟨(by decide), (by decide)⟩) hS (fun q _ h => hFc q h) hFc (fun r_49 u_50 t H1 locs ht1 hvm hw hB hz1 hk1 hS => ?_)
      obtain ⟨hP1, hD1⟩ := hB
      rw [ht1] at hP1
      try dsimp only at hw
      obtain ⟨hP, hD⟩ := va_join (wr := [(mo, .inr (9, [.int 0, .int 0, .ref g2, .ref g3, .ref g4, .ref g5, .ref g6, .ref g7, .ref g8, .ref g9, .ref g10, .ref g11, .ref g12, .ref g13, .ref g14, .ref g15, .ref g16, .ref g17, .ref g18, .ref g19, .int 0, .int 0, .ref g22, .int 0, .ref g24, .int 0, .int 0, .int (-1), .ref g28, .ref g29, .int 0, .int 0]))]) (w1 := [(ou, .inl (C 2, 1, .inr (.inl (u_50))))]) hP hD [0, 1, 2, 3, 4] [5] rfl rfl (by decide) (by decide) hk1 hFc hP1 hD1
      generalize H1 = H at hP hS ⊢
      have hP : va_P D vwCl [(mo, .inr (9, [.int 0, .int 0, .ref g2, .ref g3, .ref g4, .ref g5, .ref g6, .ref g7, .ref g8, .ref g9, .ref g10, .ref g11, .ref g12, .ref g13, .ref g14, .ref g15, .ref g16, .ref g17, .ref g18, .ref g19, .int 0, .int 0, .ref g22, .int 0, .ref g24, .int 0, .int 0, .int (-1), .ref g28, .ref g29, .int 0, .int 0])), (ou, .inl (C 2, 1, .inr (.inl (u_50))))] H := hP
      have hD : va_D A [(mo, .inr (9, [.int 0, .int 0, .ref g2, .ref g3, .ref g4, .ref g5, .ref g6, .ref g7, .ref g8, .ref g9, .ref g10, .ref g11, .ref g12, .ref g13, .ref g14, .ref g15, .ref g16, .ref g17, .ref g18, .ref g19, .int 0, .int 0, .ref g22, .int 0, .ref g24, .int 0, .int 0, .int (-1), .ref g28, .ref g29, .int 0, .int 0])), (ou, .inl (C 2, 1, .inr (.inl (u_50))))] := hD
      have hq_1500 := hw
      obtain rfl : r_49 = (1 : Int32) := hw
      refine W.widen (k := 257) (n := 111955) (by decide) (by decide) ?_
      refine lv_istore (lv' := [(5, .int 1), (4, .int 0), (3, .ref ou), (2, .ref mo), (1, .ref h0), (0, .ref b)]) hx hb dL_law_1503 hl (by decide) rfl (fun ls hl => ?_)
      refine lv_aload_n hx hb dL_law_1505 rfl (lv_at hl 3 rfl) ?_
      refine lv_aload_n hx hb dL_law_1506 rfl (lv_at hl 5 rfl) ?_
      refine lv_iload hx hb dL_law_1507 (lv_at hl 1 rfl) ?_
      refine lv_iconst (v := 1) hx hb dL_law_1509 (by decide) ?_
      refine lv_iadd hx hb dL_law_1510 ?_
      refine lv_topi (fun x_51 ex_51 => ?_)
      obtain rfl : x_51 = (1 : Int32) := ex_51.trans (by decide)
      refine va_sld hx hb hX hbl hbA hS (by unfold vp_in; decide) dL_law_1511 ?_
      refine lv_aload_n hx hb dL_law_1512 rfl (lv_at hl 5 rfl) ?_
      refine lv_iload hx hb dL_law_1513 (lv_at hl 1 rfl) ?_
      refine lv_iconst (v := 2) hx hb dL_law_1515 (by decide) ?_
      refine lv_iadd hx hb dL_law_1516 ?_
      refine lv_topi (fun x_52 ex_52 => ?_)
      obtain rfl : x_52 = (2 : Int32) := ex_52.trans (by decide)
      refine va_sld hx hb hX hbl hbA hS (by unfold vp_in; decide) dL_law_1517 ?_
      refine lv_if_eq (tgt := 1525) hx hb dL_law_1518 (by decide) (fun c_1518 => ?_) (fun c_1518 => ?_)
      · skip
        refine lv_iconst (v := 0) hx hb dL_law_1525 (by decide) ?_
        refine lv_aload_n hx hb dL_law_1526 rfl (lv_at hl 5 rfl) ?_
        refine lv_iload hx hb dL_law_1527 (lv_at hl 1 rfl) ?_
        refine lv_iconst (v := 3) hx hb dL_law_1529 (by decide) ?_
        refine lv_iadd hx hb dL_law_1530 ?_
        refine lv_topi (fun x_53 ex_53 => ?_)
        obtain rfl : x_53 = (3 : Int32) := ex_53.trans (by decide)
        refine va_sld hx hb hX hbl hbA hS (by unfold vp_in; decide) dL_law_1531 ?_
        refine lv_if_eq (tgt := 1539) hx hb dL_law_1532 (by decide) (fun c_1532 => ?_) (fun c_1532 => ?_)
        · skip
          refine lv_iconst (v := 0) hx hb dL_law_1539 (by decide) ?_
          have hPc := hP.sub (ws' := [(mo, .inr (9, [.int 0, .int 0, .ref g2, .ref g3, .ref g4, .ref g5, .ref g6, .ref g7, .ref g8, .ref g9, .ref g10, .ref g11, .ref g12, .ref g13, .ref g14, .ref g15, .ref g16, .ref g17, .ref g18, .ref g19, .int 0, .int 0, .ref g22, .int 0, .ref g24, .int 0, .int 0, .int (-1), .ref g28, .ref g29, .int 0, .int 0]))]) [0] rfl
          have hDc := hD.sub (ws' := [(mo, .inr (9, [.int 0, .int 0, .ref g2, .ref g3, .ref g4, .ref g5, .ref g6, .ref g7, .ref g8, .ref g9, .ref g10, .ref g11, .ref g12, .ref g13, .ref g14, .ref g15, .ref g16, .ref g17, .ref g18, .ref g19, .int 0, .int 0, .ref g22, .int 0, .ref g24, .int 0, .int 0, .int (-1), .ref g28, .ref g29, .int 0, .int 0]))]) [0] (by decide) rfl
          have hFc := va_free (wc := [(mo, .inr (9, [.int 0, .int 0, .ref g2, .ref g3, .ref g4, .ref g5, .ref g6, .ref g7, .ref g8, .ref g9, .ref g10, .ref g11, .ref g12, .ref g13, .ref g14, .ref g15, .ref g16, .ref g17, .ref g18, .ref g19, .int 0, .int 0, .ref g22, .int 0, .ref g24, .int 0, .int 0, .int (-1), .ref g28, .ref g29, .int 0, .int 0]))]) hD hS hA [0] rfl
          refine va_calli (vx_runVW (As := [.int (xs (Int32.toNatClampNeg 1)), .int 0, .int 0]) (rest := []) ⟨hx, hb, hml, hown, ht⟩ (k9p_level l D C s.heap.size H.size mo g2 g3 g4 g5 g6 g7 g8 g9 g10 g11 g12 g13 g14 g15 g16 g17 g18 g19 g22 g24 g28 g29 ((xs (Int32.toNatClampNeg 1))) 0 0) (vx_cwVW 3 ht (xg_V m_647 m_648 m_649 m_391 m_241) rfl rfl rfl (by decide +kernel) ⟨Nat.le_of_ble_eq_true rfl, Nat.le_of_ble_eq_true rfl⟩) ⟨xPc_bl, va_recv hK hPc (ci := 9) (q0 := 0) rfl rfl, xPc_at hPc hK hDc hE hS hAb⟩ rfl rfl hl.1 rfl (lv_room (Nat.le_of_ble_eq_true rfl)) dL_law_1540 ⟨(by decide), (by decide)⟩) hS (fun q _ h => hFc q h) hFc (fun r_54 u_55 t H1 locs ht1 hvm hw hB hz1 hk1 hS => ?_)
          obtain ⟨hP1, hD1⟩ := hB
          rw [ht1] at hP1
          try dsimp only at hw
          obtain ⟨hP, hD⟩ := va_join (wr := [(ou, .inl (C 2, 1, .inr (.inl (u_50))))]) (w1 := [(mo, .inr (9, [.int (u_55.2 0 0), .int (u_55.2 1 0), .ref g2, .ref g3, .ref g4, .ref g5, .ref g6, .ref g7, .ref g8, .ref g9, .ref g10, .ref g11, .ref g12, .ref g13, .ref g14, .ref g15, .ref g16, .ref g17, .ref g18, .ref g19, .int (u_55.2 2 0), .int (u_55.2 3 0), .ref g22, .int (u_55.2 4 0), .ref g24, .int (u_55.2 5 0), .int (u_55.2 6 0), .int (u_55.2 7 0), .ref g28, .ref g29, .int (u_55.2 8 0), .int (u_55.2 9 0)]))]) hP hD [0] [1] rfl rfl (by decide) (by decide) hk1 hFc hP1 hD1
          generalize H1 = H at hP hS ⊢
          have hP : va_P D vwCl [(ou, .inl (C 2, 1, .inr (.inl (u_50)))), (mo, .inr (9, [.int (u_55.2 0 0), .int (u_55.2 1 0), .ref g2, .ref g3, .ref g4, .ref g5, .ref g6, .ref g7, .ref g8, .ref g9, .ref g10, .ref g11, .ref g12, .ref g13, .ref g14, .ref g15, .ref g16, .ref g17, .ref g18, .ref g19, .int (u_55.2 2 0), .int (u_55.2 3 0), .ref g22, .int (u_55.2 4 0), .ref g24, .int (u_55.2 5 0), .int (u_55.2 6 0), .int (u_55.2 7 0), .ref g28, .ref g29, .int (u_55.2 8 0), .int (u_55.2 9 0)]))] H := hP
          have hD : va_D A [(ou, .inl (C 2, 1, .inr (.inl (u_50)))), (mo, .inr (9, [.int (u_55.2 0 0), .int (u_55.2 1 0), .ref g2, .ref g3, .ref g4, .ref g5, .ref g6, .ref g7, .ref g8, .ref g9, .ref g10, .ref g11, .ref g12, .ref g13, .ref g14, .ref g15, .ref g16, .ref g17, .ref g18, .ref g19, .int (u_55.2 2 0), .int (u_55.2 3 0), .ref g22, .int (u_55.2 4 0), .ref g24, .int (u_55.2 5 0), .int (u_55.2 6 0), .int (u_55.2 7 0), .ref g28, .ref g29, .int (u_55.2 8 0), .int (u_55.2 9 0)]))] := hD
          have hq_1540 := hw
          refine W.widen (k := 258) (n := 111962) (by decide) (by decide) ?_
          refine lv_istore (lv' := [(6, .int r_54), (5, .int 1), (4, .int 0), (3, .ref ou), (2, .ref mo), (1, .ref h0), (0, .ref b)]) hx hb dL_law_1543 hl (by decide) rfl (fun ls hl => ?_)
          refine lv_aload_n hx hb dL_law_1545 rfl (lv_at hl 4 rfl) ?_
          have hPc := hP.sub (ws' := [(mo, .inr (9, [.int (u_55.2 0 0), .int (u_55.2 1 0), .ref g2, .ref g3, .ref g4, .ref g5, .ref g6, .ref g7, .ref g8, .ref g9, .ref g10, .ref g11, .ref g12, .ref g13, .ref g14, .ref g15, .ref g16, .ref g17, .ref g18, .ref g19, .int (u_55.2 2 0), .int (u_55.2 3 0), .ref g22, .int (u_55.2 4 0), .ref g24, .int (u_55.2 5 0), .int (u_55.2 6 0), .int (u_55.2 7 0), .ref g28, .ref g29, .int (u_55.2 8 0), .int (u_55.2 9 0)]))]) [1] rfl
          have hDc := hD.sub (ws' := [(mo, .inr (9, [.int (u_55.2 0 0), .int (u_55.2 1 0), .ref g2, .ref g3, .ref g4, .ref g5, .ref g6, .ref g7, .ref g8, .ref g9, .ref g10, .ref g11, .ref g12, .ref g13, .ref g14, .ref g15, .ref g16, .ref g17, .ref g18, .ref g19, .int (u_55.2 2 0), .int (u_55.2 3 0), .ref g22, .int (u_55.2 4 0), .ref g24, .int (u_55.2 5 0), .int (u_55.2 6 0), .int (u_55.2 7 0), .ref g28, .ref g29, .int (u_55.2 8 0), .int (u_55.2 9 0)]))]) [1] (by decide) rfl
          have hFc := va_free (wc := [(mo, .inr (9, [.int (u_55.2 0 0), .int (u_55.2 1 0), .ref g2, .ref g3, .ref g4, .ref g5, .ref g6, .ref g7, .ref g8, .ref g9, .ref g10, .ref g11, .ref g12, .ref g13, .ref g14, .ref g15, .ref g16, .ref g17, .ref g18, .ref g19, .int (u_55.2 2 0), .int (u_55.2 3 0), .ref g22, .int (u_55.2 4 0), .ref g24, .int (u_55.2 5 0), .int (u_55.2 6 0), .int (u_55.2 7 0), .ref g28, .ref g29, .int (u_55.2 8 0), .int (u_55.2 9 0)]))]) hD hS hA [1] rfl
          refine va_calli (va_runV (As := []) (rest := []) ⟨hx, hb, hml, hown, ht⟩ (k9_thrown l D C s.heap.size H.size mo g2 g3 g4 g5 g6 g7 g8 g9 g10 g11 g12 g13 g14 g15 g16 g17 g18 g19 g22 g24 g28 g29 (u_55.2 0 0) (u_55.2 1 0) (u_55.2 2 0) (u_55.2 3 0) (u_55.2 4 0) (u_55.2 5 0) (u_55.2 6 0) (u_55.2 7 0) (u_55.2 8 0) (u_55.2 9 0)) (cwV 0 ht (xg_V m_562 m_563 m_564 m_391 m_221) rfl rfl rfl (by decide +kernel) ⟨Nat.le_of_ble_eq_true rfl, Nat.le_of_ble_eq_true rfl⟩) ⟨xPc_bl, va_recv hK hPc (ci := 9) (q0 := 0) rfl rfl, xPc_at hPc hK hDc hE hS hAb⟩ rfl rfl hl.1 rfl (lv_room (Nat.le_of_ble_eq_true rfl)) dL_law_1546 ⟨(by decide), (by decide)⟩) hS (fun q _ h => hFc q h) hFc (fun r_56 u_57 t H1 locs ht1 hvm hw hB hz1 hk1 hS => ?_)
          obtain ⟨hP1, hD1⟩ := hB
          rw [ht1] at hP1
          try dsimp only at hw
          obtain ⟨hP, hD⟩ := va_join (wr := [(ou, .inl (C 2, 1, .inr (.inl (u_50))))]) (w1 := [(mo, .inr (9, [.int (u_55.2 0 0), .int (u_55.2 1 0), .ref g2, .ref g3, .ref g4, .ref g5, .ref g6, .ref g7, .ref g8, .ref g9, .ref g10, .ref g11, .ref g12, .ref g13, .ref g14, .ref g15, .ref g16, .ref g17, .ref g18, .ref g19, .int (u_55.2 2 0), .int (u_55.2 3 0), .ref g22, .int (u_55.2 4 0), .ref g24, .int (u_55.2 5 0), .int (u_55.2 6 0), .int (u_55.2 7 0), .ref g28, .ref g29, .int (u_55.2 8 0), .int (u_55.2 9 0)]))]) hP hD [1] [0] rfl rfl (by decide) (by decide) hk1 hFc hP1 hD1
          generalize H1 = H at hP hS ⊢
          have hP : va_P D vwCl [(ou, .inl (C 2, 1, .inr (.inl (u_50)))), (mo, .inr (9, [.int (u_55.2 0 0), .int (u_55.2 1 0), .ref g2, .ref g3, .ref g4, .ref g5, .ref g6, .ref g7, .ref g8, .ref g9, .ref g10, .ref g11, .ref g12, .ref g13, .ref g14, .ref g15, .ref g16, .ref g17, .ref g18, .ref g19, .int (u_55.2 2 0), .int (u_55.2 3 0), .ref g22, .int (u_55.2 4 0), .ref g24, .int (u_55.2 5 0), .int (u_55.2 6 0), .int (u_55.2 7 0), .ref g28, .ref g29, .int (u_55.2 8 0), .int (u_55.2 9 0)]))] H := hP
          have hD : va_D A [(ou, .inl (C 2, 1, .inr (.inl (u_50)))), (mo, .inr (9, [.int (u_55.2 0 0), .int (u_55.2 1 0), .ref g2, .ref g3, .ref g4, .ref g5, .ref g6, .ref g7, .ref g8, .ref g9, .ref g10, .ref g11, .ref g12, .ref g13, .ref g14, .ref g15, .ref g16, .ref g17, .ref g18, .ref g19, .int (u_55.2 2 0), .int (u_55.2 3 0), .ref g22, .int (u_55.2 4 0), .ref g24, .int (u_55.2 5 0), .int (u_55.2 6 0), .int (u_55.2 7 0), .ref g28, .ref g29, .int (u_55.2 8 0), .int (u_55.2 9 0)]))] := hD
          have hq_1546 := hw
          obtain rfl : r_56 = (1 : Int32) := hw.trans hq_1540
          refine lv_iload hx hb dL_law_1549 (lv_at hl 1 rfl) ?_
          refine lv_icmp_eq (tgt := 1556) hx hb dL_law_1551 (by decide) (fun c_1551 => ?_) (fun c_1551 => ?_)
          rotate_left
          · exact absurd c_1551 (by decide)
          refine lv_iload hx hb dL_law_1556 (lv_at hl 1 rfl) ?_
          refine lv_if_ne (tgt := 1580) hx hb dL_law_1558 (by decide) (fun c_1558 => ?_) (fun c_1558 => ?_)
          rotate_left
          · exact absurd c_1558 (by decide)
          refine lv_goto (tgt := 1732) hx hb dL_law_1580 (by decide) ?_
          exact lc_end ⟨hl0, hx, hb, hr, hml, hown, ht, hX, hbl, hlocks, hK, hE, hA, hAs, hbA⟩ (by decide) (by decide) hS (lv_sub hl [2, 6] rfl)
        · skip
          refine lv_iconst (v := 1) hx hb dL_law_1535 (by decide) ?_
          refine lv_goto (tgt := 1540) hx hb dL_law_1536 (by decide) ?_
          have hPc := hP.sub (ws' := [(mo, .inr (9, [.int 0, .int 0, .ref g2, .ref g3, .ref g4, .ref g5, .ref g6, .ref g7, .ref g8, .ref g9, .ref g10, .ref g11, .ref g12, .ref g13, .ref g14, .ref g15, .ref g16, .ref g17, .ref g18, .ref g19, .int 0, .int 0, .ref g22, .int 0, .ref g24, .int 0, .int 0, .int (-1), .ref g28, .ref g29, .int 0, .int 0]))]) [0] rfl
          have hDc := hD.sub (ws' := [(mo, .inr (9, [.int 0, .int 0, .ref g2, .ref g3, .ref g4, .ref g5, .ref g6, .ref g7, .ref g8, .ref g9, .ref g10, .ref g11, .ref g12, .ref g13, .ref g14, .ref g15, .ref g16, .ref g17, .ref g18, .ref g19, .int 0, .int 0, .ref g22, .int 0, .ref g24, .int 0, .int 0, .int (-1), .ref g28, .ref g29, .int 0, .int 0]))]) [0] (by decide) rfl
          have hFc := va_free (wc := [(mo, .inr (9, [.int 0, .int 0, .ref g2, .ref g3, .ref g4, .ref g5, .ref g6, .ref g7, .ref g8, .ref g9, .ref g10, .ref g11, .ref g12, .ref g13, .ref g14, .ref g15, .ref g16, .ref g17, .ref g18, .ref g19, .int 0, .int 0, .ref g22, .int 0, .ref g24, .int 0, .int 0, .int (-1), .ref g28, .ref g29, .int 0, .int 0]))]) hD hS hA [0] rfl
          refine va_calli (vx_runVW (As := [.int (xs (Int32.toNatClampNeg 1)), .int 0, .int 1]) (rest := []) ⟨hx, hb, hml, hown, ht⟩ (k9p_level l D C s.heap.size H.size mo g2 g3 g4 g5 g6 g7 g8 g9 g10 g11 g12 g13 g14 g15 g16 g17 g18 g19 g22 g24 g28 g29 ((xs (Int32.toNatClampNeg 1))) 0 1) (vx_cwVW 3 ht (xg_V m_647 m_648 m_649 m_391 m_241) rfl rfl rfl (by decide +kernel) ⟨Nat.le_of_ble_eq_true rfl, Nat.le_of_ble_eq_true rfl⟩) ⟨xPc_bl, va_recv hK hPc (ci := 9) (q0 := 0) rfl rfl, xPc_at hPc hK hDc hE hS hAb⟩ rfl rfl hl.1 rfl (lv_room (Nat.le_of_ble_eq_true rfl)) dL_law_1540 ⟨(by decide), (by decide)⟩) hS (fun q _ h => hFc q h) hFc (fun r_58 u_59 t H1 locs ht1 hvm hw hB hz1 hk1 hS => ?_)
          obtain ⟨hP1, hD1⟩ := hB
          rw [ht1] at hP1
          try dsimp only at hw
          obtain ⟨hP, hD⟩ := va_join (wr := [(ou, .inl (C 2, 1, .inr (.inl (u_50))))]) (w1 := [(mo, .inr (9, [.int (u_59.2 0 0), .int (u_59.2 1 0), .ref g2, .ref g3, .ref g4, .ref g5, .ref g6, .ref g7, .ref g8, .ref g9, .ref g10, .ref g11, .ref g12, .ref g13, .ref g14, .ref g15, .ref g16, .ref g17, .ref g18, .ref g19, .int (u_59.2 2 0), .int (u_59.2 3 0), .ref g22, .int (u_59.2 4 0), .ref g24, .int (u_59.2 5 0), .int (u_59.2 6 0), .int (u_59.2 7 0), .ref g28, .ref g29, .int (u_59.2 8 0), .int (u_59.2 9 0)]))]) hP hD [0] [1] rfl rfl (by decide) (by decide) hk1 hFc hP1 hD1
          generalize H1 = H at hP hS ⊢
          have hP : va_P D vwCl [(ou, .inl (C 2, 1, .inr (.inl (u_50)))), (mo, .inr (9, [.int (u_59.2 0 0), .int (u_59.2 1 0), .ref g2, .ref g3, .ref g4, .ref g5, .ref g6, .ref g7, .ref g8, .ref g9, .ref g10, .ref g11, .ref g12, .ref g13, .ref g14, .ref g15, .ref g16, .ref g17, .ref g18, .ref g19, .int (u_59.2 2 0), .int (u_59.2 3 0), .ref g22, .int (u_59.2 4 0), .ref g24, .int (u_59.2 5 0), .int (u_59.2 6 0), .int (u_59.2 7 0), .ref g28, .ref g29, .int (u_59.2 8 0), .int (u_59.2 9 0)]))] H := hP
          have hD : va_D A [(ou, .inl (C 2, 1, .inr (.inl (u_50)))), (mo, .inr (9, [.int (u_59.2 0 0), .int (u_59.2 1 0), .ref g2, .ref g3, .ref g4, .ref g5, .ref g6, .ref g7, .ref g8, .ref g9, .ref g10, .ref g11, .ref g12, .ref g13, .ref g14, .ref g15, .ref g16, .ref g17, .ref g18, .ref g19, .int (u_59.2 2 0), .int (u_59.2 3 0), .ref g22, .int (u_59.2 4 0), .ref g24, .int (u_59.2 5 0), .int (u_59.2 6 0), .int (u_59.2 7 0), .ref g28, .ref g29, .int (u_59.2 8 0), .int (u_59.2 9 0)]))] := hD
          have hq_1540 := hw
          refine W.widen (k := 258) (n := 111962) (by decide) (by decide) ?_
          refine lv_istore (lv' := [(6, .int r_58), (5, .int 1), (4, .int 0), (3, .ref ou), (2, .ref mo), (1, .ref h0), (0, .ref b)]) hx hb dL_law_1543 hl (by decide) rfl (fun ls hl => ?_)
          refine lv_aload_n hx hb dL_law_1545 rfl (lv_at hl 4 rfl) ?_
          have hPc := hP.sub (ws' := [(mo, .inr (9, [.int (u_59.2 0 0), .int (u_59.2 1 0), .ref g2, .ref g3, .ref g4, .ref g5, .ref g6, .ref g7, .ref g8, .ref g9, .ref g10, .ref g11, .ref g12, .ref g13, .ref g14, .ref g15, .ref g16, .ref g17, .ref g18, .ref g19, .int (u_59.2 2 0), .int (u_59.2 3 0), .ref g22, .int (u_59.2 4 0), .ref g24, .int (u_59.2 5 0), .int (u_59.2 6 0), .int (u_59.2 7 0), .ref g28, .ref g29, .int (u_59.2 8 0), .int (u_59.2 9 0)]))]) [1] rfl
          have hDc := hD.sub (ws' := [(mo, .inr (9, [.int (u_59.2 0 0), .int (u_59.2 1 0), .ref g2, .ref g3, .ref g4, .ref g5, .ref g6, .ref g7, .ref g8, .ref g9, .ref g10, .ref g11, .ref g12, .ref g13, .ref g14, .ref g15, .ref g16, .ref g17, .ref g18, .ref g19, .int (u_59.2 2 0), .int (u_59.2 3 0), .ref g22, .int (u_59.2 4 0), .ref g24, .int (u_59.2 5 0), .int (u_59.2 6 0), .int (u_59.2 7 0), .ref g28, .ref g29, .int (u_59.2 8 0), .int (u_59.2 9 0)]))]) [1] (by decide) rfl
          have hFc := va_free (wc := [(mo, .inr (9, [.int (u_59.2 0 0), .int (u_59.2 1 0), .ref g2, .ref g3, .ref g4, .ref g5, .ref g6, .ref g7, .ref g8, .ref g9, .ref g10, .ref g11, .ref g12, .ref g13, .ref g14, .ref g15, .ref g16, .ref g17, .ref g18, .ref g19, .int (u_59.2 2 0), .int (u_59.2 3 0), .ref g22, .int (u_59.2 4 0), .ref g24, .int (u_59.2 5 0), .int (u_59.2 6 0), .int (u_59.2 7 0), .ref g28, .ref g29, .int (u_59.2 8 0), .int (u_59.2 9 0)]))]) hD hS hA [1] rfl
          refine va_calli (va_runV (As := []) (rest := []) ⟨hx, hb, hml, hown, ht⟩ (k9_thrown l D C s.heap.size H.size mo g2 g3 g4 g5 g6 g7 g8 g9 g10 g11 g12 g13 g14 g15 g16 g17 g18 g19 g22 g24 g28 g29 (u_59.2 0 0) (u_59.2 1 0) (u_59.2 2 0) (u_59.2 3 0) (u_59.2 4 0) (u_59.2 5 0) (u_59.2 6 0) (u_59.2 7 0) (u_59.2 8 0) (u_59.2 9 0)) (cwV 0 ht (xg_V m_562 m_563 m_564 m_391 m_221) rfl rfl rfl (by decide +kernel) ⟨Nat.le_of_ble_eq_true rfl, Nat.le_of_ble_eq_true rfl⟩) ⟨xPc_bl, va_recv hK hPc (ci := 9) (q0 := 0) rfl rfl, xPc_at hPc hK hDc hE hS hAb⟩ rfl rfl hl.1 rfl (lv_room (Nat.le_of_ble_eq_true rfl)) dL_law_1546 ⟨(by decide), (by decide)⟩) hS (fun q _ h => hFc q h) hFc (fun r_60 u_61 t H1 locs ht1 hvm hw hB hz1 hk1 hS => ?_)
          obtain ⟨hP1, hD1⟩ := hB
          rw [ht1] at hP1
          try dsimp only at hw
          obtain ⟨hP, hD⟩ := va_join (wr := [(ou, .inl (C 2, 1, .inr (.inl (u_50))))]) (w1 := [(mo, .inr (9, [.int (u_59.2 0 0), .int (u_59.2 1 0), .ref g2, .ref g3, .ref g4, .ref g5, .ref g6, .ref g7, .ref g8, .ref g9, .ref g10, .ref g11, .ref g12, .ref g13, .ref g14, .ref g15, .ref g16, .ref g17, .ref g18, .ref g19, .int (u_59.2 2 0), .int (u_59.2 3 0), .ref g22, .int (u_59.2 4 0), .ref g24, .int (u_59.2 5 0), .int (u_59.2 6 0), .int (u_59.2 7 0), .ref g28, .ref g29, .int (u_59.2 8 0), .int (u_59.2 9 0)]))]) hP hD [1] [0] rfl rfl (by decide) (by decide) hk1 hFc hP1 hD1
          generalize H1 = H at hP hS ⊢
          have hP : va_P D vwCl [(ou, .inl (C 2, 1, .inr (.inl (u_50)))), (mo, .inr (9, [.int (u_59.2 0 0), .int (u_59.2 1 0), .ref g2, .ref g3, .ref g4, .ref g5, .ref g6, .ref g7, .ref g8, .ref g9, .ref g10, .ref g11, .ref g12, .ref g13, .ref g14, .ref g15, .ref g16, .ref g17, .ref g18, .ref g19, .int (u_59.2 2 0), .int (u_59.2 3 0), .ref g22, .int (u_59.2 4 0), .ref g24, .int (u_59.2 5 0), .int (u_59.2 6 0), .int (u_59.2 7 0), .ref g28, .ref g29, .int (u_59.2 8 0), .int (u_59.2 9 0)]))] H := hP
          have hD : va_D A [(ou, .inl (C 2, 1, .inr (.inl (u_50)))), (mo, .inr (9, [.int (u_59.2 0 0), .int (u_59.2 1 0), .ref g2, .ref g3, .ref g4, .ref g5, .ref g6, .ref g7, .ref g8, .ref g9, .ref g10, .ref g11, .ref g12, .ref g13, .ref g14, .ref g15, .ref g16, .ref g17, .ref g18, .ref g19, .int (u_59.2 2 0), .int (u_59.2 3 0), .ref g22, .int (u_59.2 4 0), .ref g24, .int (u_59.2 5 0), .int (u_59.2 6 0), .int (u_59.2 7 0), .ref g28, .ref g29, .int (u_59.2 8 0), .int (u_59.2 9 0)]))] := hD
          have hq_1546 := hw
          obtain rfl : r_60 = (1 : Int32) := hw.trans hq_1540
          refine lv_iload hx hb dL_law_1549 (lv_at hl 1 rfl) ?_
          refine lv_icmp_eq (tgt := 1556) hx hb dL_law_1551 (by decide) (fun c_1551 => ?_) (fun c_1551 => ?_)
          rotate_left
          · exact absurd c_1551 (by decide)
          refine lv_iload hx hb dL_law_1556 (lv_at hl 1 rfl) ?_
          refine lv_if_ne (tgt := 1580) hx hb dL_law_1558 (by decide) (fun c_1558 => ?_) (fun c_1558 => ?_)
          rotate_left
          · exact absurd c_1558 (by decide)
          refine lv_goto (tgt := 1732) hx hb dL_law_1580 (by decide) ?_
          exact lc_end ⟨hl0, hx, hb, hr, hml, hown, ht, hX, hbl, hlocks, hK, hE, hA, hAs, hbA⟩ (by decide) (by decide) hS (lv_sub hl [2, 6] rfl)
      · skip
        refine lv_iconst (v := 1) hx hb dL_law_1521 (by decide) ?_
        refine lv_goto (tgt := 1526) hx hb dL_law_1522 (by decide) ?_
        refine lv_aload_n hx hb dL_law_1526 rfl (lv_at hl 5 rfl) ?_
        refine lv_iload hx hb dL_law_1527 (lv_at hl 1 rfl) ?_
        refine lv_iconst (v := 3) hx hb dL_law_1529 (by decide) ?_
        refine lv_iadd hx hb dL_law_1530 ?_
        refine lv_topi (fun x_62 ex_62 => ?_)
        obtain rfl : x_62 = (3 : Int32) := ex_62.trans (by decide)
        refine va_sld hx hb hX hbl hbA hS (by unfold vp_in; decide) dL_law_1531 ?_
        refine lv_if_eq (tgt := 1539) hx hb dL_law_1532 (by decide) (fun c_1532 => ?_) (fun c_1532 => ?_)
        · skip
          refine lv_iconst (v := 0) hx hb dL_law_1539 (by decide) ?_
          have hPc := hP.sub (ws' := [(mo, .inr (9, [.int 0, .int 0, .ref g2, .ref g3, .ref g4, .ref g5, .ref g6, .ref g7, .ref g8, .ref g9, .ref g10, .ref g11, .ref g12, .ref g13, .ref g14, .ref g15, .ref g16, .ref g17, .ref g18, .ref g19, .int 0, .int 0, .ref g22, .int 0, .ref g24, .int 0, .int 0, .int (-1), .ref g28, .ref g29, .int 0, .int 0]))]) [0] rfl
          have hDc := hD.sub (ws' := [(mo, .inr (9, [.int 0, .int 0, .ref g2, .ref g3, .ref g4, .ref g5, .ref g6, .ref g7, .ref g8, .ref g9, .ref g10, .ref g11, .ref g12, .ref g13, .ref g14, .ref g15, .ref g16, .ref g17, .ref g18, .ref g19, .int 0, .int 0, .ref g22, .int 0, .ref g24, .int 0, .int 0, .int (-1), .ref g28, .ref g29, .int 0, .int 0]))]) [0] (by decide) rfl
          have hFc := va_free (wc := [(mo, .inr (9, [.int 0, .int 0, .ref g2, .ref g3, .ref g4, .ref g5, .ref g6, .ref g7, .ref g8, .ref g9, .ref g10, .ref g11, .ref g12, .ref g13, .ref g14, .ref g15, .ref g16, .ref g17, .ref g18, .ref g19, .int 0, .int 0, .ref g22, .int 0, .ref g24, .int 0, .int 0, .int (-1), .ref g28, .ref g29, .int 0, .int 0]))]) hD hS hA [0] rfl
          refine va_calli (vx_runVW (As := [.int (xs (Int32.toNatClampNeg 1)), .int 1, .int 0]) (rest := []) ⟨hx, hb, hml, hown, ht⟩ (k9p_level l D C s.heap.size H.size mo g2 g3 g4 g5 g6 g7 g8 g9 g10 g11 g12 g13 g14 g15 g16 g17 g18 g19 g22 g24 g28 g29 ((xs (Int32.toNatClampNeg 1))) 1 0) (vx_cwVW 3 ht (xg_V m_647 m_648 m_649 m_391 m_241) rfl rfl rfl (by decide +kernel) ⟨Nat.le_of_ble_eq_true rfl, Nat.le_of_ble_eq_true rfl⟩) ⟨xPc_bl, va_recv hK hPc (ci := 9) (q0 := 0) rfl rfl, xPc_at hPc hK hDc hE hS hAb⟩ rfl rfl hl.1 rfl (lv_room (Nat.le_of_ble_eq_true rfl)) dL_law_1540 ⟨(by decide), (by decide)⟩) hS (fun q _ h => hFc q h) hFc (fun r_63 u_64 t H1 locs ht1 hvm hw hB hz1 hk1 hS => ?_)
          obtain ⟨hP1, hD1⟩ := hB
          rw [ht1] at hP1
          try dsimp only at hw
          obtain ⟨hP, hD⟩ := va_join (wr := [(ou, .inl (C 2, 1, .inr (.inl (u_50))))]) (w1 := [(mo, .inr (9, [.int (u_64.2 0 0), .int (u_64.2 1 0), .ref g2, .ref g3, .ref g4, .ref g5, .ref g6, .ref g7, .ref g8, .ref g9, .ref g10, .ref g11, .ref g12, .ref g13, .ref g14, .ref g15, .ref g16, .ref g17, .ref g18, .ref g19, .int (u_64.2 2 0), .int (u_64.2 3 0), .ref g22, .int (u_64.2 4 0), .ref g24, .int (u_64.2 5 0), .int (u_64.2 6 0), .int (u_64.2 7 0), .ref g28, .ref g29, .int (u_64.2 8 0), .int (u_64.2 9 0)]))]) hP hD [0] [1] rfl rfl (by decide) (by decide) hk1 hFc hP1 hD1
          generalize H1 = H at hP hS ⊢
          have hP : va_P D vwCl [(ou, .inl (C 2, 1, .inr (.inl (u_50)))), (mo, .inr (9, [.int (u_64.2 0 0), .int (u_64.2 1 0), .ref g2, .ref g3, .ref g4, .ref g5, .ref g6, .ref g7, .ref g8, .ref g9, .ref g10, .ref g11, .ref g12, .ref g13, .ref g14, .ref g15, .ref g16, .ref g17, .ref g18, .ref g19, .int (u_64.2 2 0), .int (u_64.2 3 0), .ref g22, .int (u_64.2 4 0), .ref g24, .int (u_64.2 5 0), .int (u_64.2 6 0), .int (u_64.2 7 0), .ref g28, .ref g29, .int (u_64.2 8 0), .int (u_64.2 9 0)]))] H := hP
          have hD : va_D A [(ou, .inl (C 2, 1, .inr (.inl (u_50)))), (mo, .inr (9, [.int (u_64.2 0 0), .int (u_64.2 1 0), .ref g2, .ref g3, .ref g4, .ref g5, .ref g6, .ref g7, .ref g8, .ref g9, .ref g10, .ref g11, .ref g12, .ref g13, .ref g14, .ref g15, .ref g16, .ref g17, .ref g18, .ref g19, .int (u_64.2 2 0), .int (u_64.2 3 0), .ref g22, .int (u_64.2 4 0), .ref g24, .int (u_64.2 5 0), .int (u_64.2 6 0), .int (u_64.2 7 0), .ref g28, .ref g29, .int (u_64.2 8 0), .int (u_64.2 9 0)]))] := hD
          have hq_1540 := hw
          refine W.widen (k := 258) (n := 111962) (by decide) (by decide) ?_
          refine lv_istore (lv' := [(6, .int r_63), (5, .int 1), (4, .int 0), (3, .ref ou), (2, .ref mo), (1, .ref h0), (0, .ref b)]) hx hb dL_law_1543 hl (by decide) rfl (fun ls hl => ?_)
          refine lv_aload_n hx hb dL_law_1545 rfl (lv_at hl 4 rfl) ?_
          have hPc := hP.sub (ws' := [(mo, .inr (9, [.int (u_64.2 0 0), .int (u_64.2 1 0), .ref g2, .ref g3, .ref g4, .ref g5, .ref g6, .ref g7, .ref g8, .ref g9, .ref g10, .ref g11, .ref g12, .ref g13, .ref g14, .ref g15, .ref g16, .ref g17, .ref g18, .ref g19, .int (u_64.2 2 0), .int (u_64.2 3 0), .ref g22, .int (u_64.2 4 0), .ref g24, .int (u_64.2 5 0), .int (u_64.2 6 0), .int (u_64.2 7 0), .ref g28, .ref g29, .int (u_64.2 8 0), .int (u_64.2 9 0)]))]) [1] rfl
          have hDc := hD.sub (ws' := [(mo, .inr (9, [.int (u_64.2 0 0), .int (u_64.2 1 0), .ref g2, .ref g3, .ref g4, .ref g5, .ref g6, .ref g7, .ref g8, .ref g9, .ref g10, .ref g11, .ref g12, .ref g13, .ref g14, .ref g15, .ref g16, .ref g17, .ref g18, .ref g19, .int (u_64.2 2 0), .int (u_64.2 3 0), .ref g22, .int (u_64.2 4 0), .ref g24, .int (u_64.2 5 0), .int (u_64.2 6 0), .int (u_64.2 7 0), .ref g28, .ref g29, .int (u_64.2 8 0), .int (u_64.2 9 0)]))]) [1] (by decide) rfl
          have hFc := va_free (wc := [(mo, .inr (9, [.int (u_64.2 0 0), .int (u_64.2 1 0), .ref g2, .ref g3, .ref g4, .ref g5, .ref g6, .ref g7, .ref g8, .ref g9, .ref g10, .ref g11, .ref g12, .ref g13, .ref g14, .ref g15, .ref g16, .ref g17, .ref g18, .ref g19, .int (u_64.2 2 0), .int (u_64.2 3 0), .ref g22, .int (u_64.2 4 0), .ref g24, .int (u_64.2 5 0), .int (u_64.2 6 0), .int (u_64.2 7 0), .ref g28, .ref g29, .int (u_64.2 8 0), .int (u_64.2 9 0)]))]) hD hS hA [1] rfl
          refine va_calli (va_runV (As := []) (rest := []) ⟨hx, hb, hml, hown, ht⟩ (k9_thrown l D C s.heap.size H.size mo g2 g3 g4 g5 g6 g7 g8 g9 g10 g11 g12 g13 g14 g15 g16 g17 g18 g19 g22 g24 g28 g29 (u_64.2 0 0) (u_64.2 1 0) (u_64.2 2 0) (u_64.2 3 0) (u_64.2 4 0) (u_64.2 5 0) (u_64.2 6 0) (u_64.2 7 0) (u_64.2 8 0) (u_64.2 9 0)) (cwV 0 ht (xg_V m_562 m_563 m_564 m_391 m_221) rfl rfl rfl (by decide +kernel) ⟨Nat.le_of_ble_eq_true rfl, Nat.le_of_ble_eq_true rfl⟩) ⟨xPc_bl, va_recv hK hPc (ci := 9) (q0 := 0) rfl rfl, xPc_at hPc hK hDc hE hS hAb⟩ rfl rfl hl.1 rfl (lv_room (Nat.le_of_ble_eq_true rfl)) dL_law_1546 ⟨(by decide), (by decide)⟩) hS (fun q _ h => hFc q h) hFc (fun r_65 u_66 t H1 locs ht1 hvm hw hB hz1 hk1 hS => ?_)
          obtain ⟨hP1, hD1⟩ := hB
          rw [ht1] at hP1
          try dsimp only at hw
          obtain ⟨hP, hD⟩ := va_join (wr := [(ou, .inl (C 2, 1, .inr (.inl (u_50))))]) (w1 := [(mo, .inr (9, [.int (u_64.2 0 0), .int (u_64.2 1 0), .ref g2, .ref g3, .ref g4, .ref g5, .ref g6, .ref g7, .ref g8, .ref g9, .ref g10, .ref g11, .ref g12, .ref g13, .ref g14, .ref g15, .ref g16, .ref g17, .ref g18, .ref g19, .int (u_64.2 2 0), .int (u_64.2 3 0), .ref g22, .int (u_64.2 4 0), .ref g24, .int (u_64.2 5 0), .int (u_64.2 6 0), .int (u_64.2 7 0), .ref g28, .ref g29, .int (u_64.2 8 0), .int (u_64.2 9 0)]))]) hP hD [1] [0] rfl rfl (by decide) (by decide) hk1 hFc hP1 hD1
          generalize H1 = H at hP hS ⊢
          have hP : va_P D vwCl [(ou, .inl (C 2, 1, .inr (.inl (u_50)))), (mo, .inr (9, [.int (u_64.2 0 0), .int (u_64.2 1 0), .ref g2, .ref g3, .ref g4, .ref g5, .ref g6, .ref g7, .ref g8, .ref g9, .ref g10, .ref g11, .ref g12, .ref g13, .ref g14, .ref g15, .ref g16, .ref g17, .ref g18, .ref g19, .int (u_64.2 2 0), .int (u_64.2 3 0), .ref g22, .int (u_64.2 4 0), .ref g24, .int (u_64.2 5 0), .int (u_64.2 6 0), .int (u_64.2 7 0), .ref g28, .ref g29, .int (u_64.2 8 0), .int (u_64.2 9 0)]))] H := hP
          have hD : va_D A [(ou, .inl (C 2, 1, .inr (.inl (u_50)))), (mo, .inr (9, [.int (u_64.2 0 0), .int (u_64.2 1 0), .ref g2, .ref g3, .ref g4, .ref g5, .ref g6, .ref g7, .ref g8, .ref g9, .ref g10, .ref g11, .ref g12, .ref g13, .ref g14, .ref g15, .ref g16, .ref g17, .ref g18, .ref g19, .int (u_64.2 2 0), .int (u_64.2 3 0), .ref g22, .int (u_64.2 4 0), .ref g24, .int (u_64.2 5 0), .int (u_64.2 6 0), .int (u_64.2 7 0), .ref g28, .ref g29, .int (u_64.2 8 0), .int (u_64.2 9 0)]))] := hD
          have hq_1546 := hw
          obtain rfl : r_65 = (1 : Int32) := hw.trans hq_1540
          refine lv_iload hx hb dL_law_1549 (lv_at hl 1 rfl) ?_
          refine lv_icmp_eq (tgt := 1556) hx hb dL_law_1551 (by decide) (fun c_1551 => ?_) (fun c_1551 => ?_)
          rotate_left
          · exact absurd c_1551 (by decide)
          refine lv_iload hx hb dL_law_1556 (lv_at hl 1 rfl) ?_
          refine lv_if_ne (tgt := 1580) hx hb dL_law_1558 (by decide) (fun c_1558 => ?_) (fun c_1558 => ?_)
          rotate_left
          · exact absurd c_1558 (by decide)
          refine lv_goto (tgt := 1732) hx hb dL_law_1580 (by decide) ?_
          exact lc_end ⟨hl0, hx, hb, hr, hml, hown, ht, hX, hbl, hlocks, hK, hE, hA, hAs, hbA⟩ (by decide) (by decide) hS (lv_sub hl [2, 6] rfl)
        · skip
          refine lv_iconst (v := 1) hx hb dL_law_1535 (by decide) ?_
          refine lv_goto (tgt := 1540) hx hb dL_law_1536 (by decide) ?_
          have hPc := hP.sub (ws' := [(mo, .inr (9, [.int 0, .int 0, .ref g2, .ref g3, .ref g4, .ref g5, .ref g6, .ref g7, .ref g8, .ref g9, .ref g10, .ref g11, .ref g12, .ref g13, .ref g14, .ref g15, .ref g16, .ref g17, .ref g18, .ref g19, .int 0, .int 0, .ref g22, .int 0, .ref g24, .int 0, .int 0, .int (-1), .ref g28, .ref g29, .int 0, .int 0]))]) [0] rfl
          have hDc := hD.sub (ws' := [(mo, .inr (9, [.int 0, .int 0, .ref g2, .ref g3, .ref g4, .ref g5, .ref g6, .ref g7, .ref g8, .ref g9, .ref g10, .ref g11, .ref g12, .ref g13, .ref g14, .ref g15, .ref g16, .ref g17, .ref g18, .ref g19, .int 0, .int 0, .ref g22, .int 0, .ref g24, .int 0, .int 0, .int (-1), .ref g28, .ref g29, .int 0, .int 0]))]) [0] (by decide) rfl
          have hFc := va_free (wc := [(mo, .inr (9, [.int 0, .int 0, .ref g2, .ref g3, .ref g4, .ref g5, .ref g6, .ref g7, .ref g8, .ref g9, .ref g10, .ref g11, .ref g12, .ref g13, .ref g14, .ref g15, .ref g16, .ref g17, .ref g18, .ref g19, .int 0, .int 0, .ref g22, .int 0, .ref g24, .int 0, .int 0, .int (-1), .ref g28, .ref g29, .int 0, .int 0]))]) hD hS hA [0] rfl
          refine va_calli (vx_runVW (As := [.int (xs (Int32.toNatClampNeg 1)), .int 1, .int 1]) (rest := []) ⟨hx, hb, hml, hown, ht⟩ (k9p_level l D C s.heap.size H.size mo g2 g3 g4 g5 g6 g7 g8 g9 g10 g11 g12 g13 g14 g15 g16 g17 g18 g19 g22 g24 g28 g29 ((xs (Int32.toNatClampNeg 1))) 1 1) (vx_cwVW 3 ht (xg_V m_647 m_648 m_649 m_391 m_241) rfl rfl rfl (by decide +kernel) ⟨Nat.le_of_ble_eq_true rfl, Nat.le_of_ble_eq_true rfl⟩) ⟨xPc_bl, va_recv hK hPc (ci := 9) (q0 := 0) rfl rfl, xPc_at hPc hK hDc hE hS hAb⟩ rfl rfl hl.1 rfl (lv_room (Nat.le_of_ble_eq_true rfl)) dL_law_1540 ⟨(by decide), (by decide)⟩) hS (fun q _ h => hFc q h) hFc (fun r_67 u_68 t H1 locs ht1 hvm hw hB hz1 hk1 hS => ?_)
          obtain ⟨hP1, hD1⟩ := hB
          rw [ht1] at hP1
          try dsimp only at hw
          obtain ⟨hP, hD⟩ := va_join (wr := [(ou, .inl (C 2, 1, .inr (.inl (u_50))))]) (w1 := [(mo, .inr (9, [.int (u_68.2 0 0), .int (u_68.2 1 0), .ref g2, .ref g3, .ref g4, .ref g5, .ref g6, .ref g7, .ref g8, .ref g9, .ref g10, .ref g11, .ref g12, .ref g13, .ref g14, .ref g15, .ref g16, .ref g17, .ref g18, .ref g19, .int (u_68.2 2 0), .int (u_68.2 3 0), .ref g22, .int (u_68.2 4 0), .ref g24, .int (u_68.2 5 0), .int (u_68.2 6 0), .int (u_68.2 7 0), .ref g28, .ref g29, .int (u_68.2 8 0), .int (u_68.2 9 0)]))]) hP hD [0] [1] rfl rfl (by decide) (by decide) hk1 hFc hP1 hD1
          generalize H1 = H at hP hS ⊢
          have hP : va_P D vwCl [(ou, .inl (C 2, 1, .inr (.inl (u_50)))), (mo, .inr (9, [.int (u_68.2 0 0), .int (u_68.2 1 0), .ref g2, .ref g3, .ref g4, .ref g5, .ref g6, .ref g7, .ref g8, .ref g9, .ref g10, .ref g11, .ref g12, .ref g13, .ref g14, .ref g15, .ref g16, .ref g17, .ref g18, .ref g19, .int (u_68.2 2 0), .int (u_68.2 3 0), .ref g22, .int (u_68.2 4 0), .ref g24, .int (u_68.2 5 0), .int (u_68.2 6 0), .int (u_68.2 7 0), .ref g28, .ref g29, .int (u_68.2 8 0), .int (u_68.2 9 0)]))] H := hP
          have hD : va_D A [(ou, .inl (C 2, 1, .inr (.inl (u_50)))), (mo, .inr (9, [.int (u_68.2 0 0), .int (u_68.2 1 0), .ref g2, .ref g3, .ref g4, .ref g5, .ref g6, .ref g7, .ref g8, .ref g9, .ref g10, .ref g11, .ref g12, .ref g13, .ref g14, .ref g15, .ref g16, .ref g17, .ref g18, .ref g19, .int (u_68.2 2 0), .int (u_68.2 3 0), .ref g22, .int (u_68.2 4 0), .ref g24, .int (u_68.2 5 0), .int (u_68.2 6 0), .int (u_68.2 7 0), .ref g28, .ref g29, .int (u_68.2 8 0), .int (u_68.2 9 0)]))] := hD
          have hq_1540 := hw
          refine W.widen (k := 258) (n := 111962) (by decide) (by decide) ?_
          refine lv_istore (lv' := [(6, .int r_67), (5, .int 1), (4, .int 0), (3, .ref ou), (2, .ref mo), (1, .ref h0), (0, .ref b)]) hx hb dL_law_1543 hl (by decide) rfl (fun ls hl => ?_)
          refine lv_aload_n hx hb dL_law_1545 rfl (lv_at hl 4 rfl) ?_
          have hPc := hP.sub (ws' := [(mo, .inr (9, [.int (u_68.2 0 0), .int (u_68.2 1 0), .ref g2, .ref g3, .ref g4, .ref g5, .ref g6, .ref g7, .ref g8, .ref g9, .ref g10, .ref g11, .ref g12, .ref g13, .ref g14, .ref g15, .ref g16, .ref g17, .ref g18, .ref g19, .int (u_68.2 2 0), .int (u_68.2 3 0), .ref g22, .int (u_68.2 4 0), .ref g24, .int (u_68.2 5 0), .int (u_68.2 6 0), .int (u_68.2 7 0), .ref g28, .ref g29, .int (u_68.2 8 0), .int (u_68.2 9 0)]))]) [1] rfl
          have hDc := hD.sub (ws' := [(mo, .inr (9, [.int (u_68.2 0 0), .int (u_68.2 1 0), .ref g2, .ref g3, .ref g4, .ref g5, .ref g6, .ref g7, .ref g8, .ref g9, .ref g10, .ref g11, .ref g12, .ref g13, .ref g14, .ref g15, .ref g16, .ref g17, .ref g18, .ref g19, .int (u_68.2 2 0), .int (u_68.2 3 0), .ref g22, .int (u_68.2 4 0), .ref g24, .int (u_68.2 5 0), .int (u_68.2 6 0), .int (u_68.2 7 0), .ref g28, .ref g29, .int (u_68.2 8 0), .int (u_68.2 9 0)]))]) [1] (by decide) rfl
          have hFc := va_free (wc := [(mo, .inr (9, [.int (u_68.2 0 0), .int (u_68.2 1 0), .ref g2, .ref g3, .ref g4, .ref g5, .ref g6, .ref g7, .ref g8, .ref g9, .ref g10, .ref g11, .ref g12, .ref g13, .ref g14, .ref g15, .ref g16, .ref g17, .ref g18, .ref g19, .int (u_68.2 2 0), .int (u_68.2 3 0), .ref g22, .int (u_68.2 4 0), .ref g24, .int (u_68.2 5 0), .int (u_68.2 6 0), .int (u_68.2 7 0), .ref g28, .ref g29, .int (u_68.2 8 0), .int (u_68.2 9 0)]))]) hD hS hA [1] rfl
          refine va_calli (va_runV (As := []) (rest := []) ⟨hx, hb, hml, hown, ht⟩ (k9_thrown l D C s.heap.size H.size mo g2 g3 g4 g5 g6 g7 g8 g9 g10 g11 g12 g13 g14 g15 g16 g17 g18 g19 g22 g24 g28 g29 (u_68.2 0 0) (u_68.2 1 0) (u_68.2 2 0) (u_68.2 3 0) (u_68.2 4 0) (u_68.2 5 0) (u_68.2 6 0) (u_68.2 7 0) (u_68.2 8 0) (u_68.2 9 0)) (cwV 0 ht (xg_V m_562 m_563 m_564 m_391 m_221) rfl rfl rfl (by decide +kernel) ⟨Nat.le_of_ble_eq_true rfl, Nat.le_of_ble_eq_true rfl⟩) ⟨xPc_bl, va_recv hK hPc (ci := 9) (q0 := 0) rfl rfl, xPc_at hPc hK hDc hE hS hAb⟩ rfl rfl hl.1 rfl (lv_room (Nat.le_of_ble_eq_true rfl)) dL_law_1546 ⟨(by decide), (by decide)⟩) hS (fun q _ h => hFc q h) hFc (fun r_69 u_70 t H1 locs ht1 hvm hw hB hz1 hk1 hS => ?_)
          obtain ⟨hP1, hD1⟩ := hB
          rw [ht1] at hP1
          try dsimp only at hw
          obtain ⟨hP, hD⟩ := va_join (wr := [(ou, .inl (C 2, 1, .inr (.inl (u_50))))]) (w1 := [(mo, .inr (9, [.int (u_68.2 0 0), .int (u_68.2 1 0), .ref g2, .ref g3, .ref g4, .ref g5, .ref g6, .ref g7, .ref g8, .ref g9, .ref g10, .ref g11, .ref g12, .ref g13, .ref g14, .ref g15, .ref g16, .ref g17, .ref g18, .ref g19, .int (u_68.2 2 0), .int (u_68.2 3 0), .ref g22, .int (u_68.2 4 0), .ref g24, .int (u_68.2 5 0), .int (u_68.2 6 0), .int (u_68.2 7 0), .ref g28, .ref g29, .int (u_68.2 8 0), .int (u_68.2 9 0)]))]) hP hD [1] [0] rfl rfl (by decide) (by decide) hk1 hFc hP1 hD1
          generalize H1 = H at hP hS ⊢
          have hP : va_P D vwCl [(ou, .inl (C 2, 1, .inr (.inl (u_50)))), (mo, .inr (9, [.int (u_68.2 0 0), .int (u_68.2 1 0), .ref g2, .ref g3, .ref g4, .ref g5, .ref g6, .ref g7, .ref g8, .ref g9, .ref g10, .ref g11, .ref g12, .ref g13, .ref g14, .ref g15, .ref g16, .ref g17, .ref g18, .ref g19, .int (u_68.2 2 0), .int (u_68.2 3 0), .ref g22, .int (u_68.2 4 0), .ref g24, .int (u_68.2 5 0), .int (u_68.2 6 0), .int (u_68.2 7 0), .ref g28, .ref g29, .int (u_68.2 8 0), .int (u_68.2 9 0)]))] H := hP
          have hD : va_D A [(ou, .inl (C 2, 1, .inr (.inl (u_50)))), (mo, .inr (9, [.int (u_68.2 0 0), .int (u_68.2 1 0), .ref g2, .ref g3, .ref g4, .ref g5, .ref g6, .ref g7, .ref g8, .ref g9, .ref g10, .ref g11, .ref g12, .ref g13, .ref g14, .ref g15, .ref g16, .ref g17, .ref g18, .ref g19, .int (u_68.2 2 0), .int (u_68.2 3 0), .ref g22, .int (u_68.2 4 0), .ref g24, .int (u_68.2 5 0), .int (u_68.2 6 0), .int (u_68.2 7 0), .ref g28, .ref g29, .int (u_68.2 8 0), .int (u_68.2 9 0)]))] := hD
          have hq_1546 := hw
          obtain rfl : r_69 = (1 : Int32) := hw.trans hq_1540
          refine lv_iload hx hb dL_law_1549 (lv_at hl 1 rfl) ?_
          refine lv_icmp_eq (tgt := 1556) hx hb dL_law_1551 (by decide) (fun c_1551 => ?_) (fun c_1551 => ?_)
          rotate_left
          · exact absurd c_1551 (by decide)
          refine lv_iload hx hb dL_law_1556 (lv_at hl 1 rfl) ?_
          refine lv_if_ne (tgt := 1580) hx hb dL_law_1558 (by decide) (fun c_1558 => ?_) (fun c_1558 => ?_)
          rotate_left
          · exact absurd c_1558 (by decide)
          refine lv_goto (tgt := 1732) hx hb dL_law_1580 (by decide) ?_
          exact lc_end ⟨hl0, hx, hb, hr, hml, hown, ht, hX, hbl, hlocks, hK, hE, hA, hAs, hbA⟩ (by decide) (by decide) hS (lv_sub hl [2, 6] rfl)
    · skip
      refine lv_iconst (v := 1) hx hb dL_law_1494 (by decide) ?_
      refine lv_goto (tgt := 1499) hx hb dL_law_1495 (by decide) ?_
      refine lv_aload_n hx hb dL_law_1499 rfl (lv_at hl 1 rfl) ?_
      have hPc := hP.sub (ws' := [(h0, .inr (5, [.ref s0, .ref de, .ref kl, .ref tl, .ref cu, .ref hk, .ref ca, .int 0, .int 0, .int (-1), .int 0, .int 0])), (kl, .inr (2, [.ref kx, .ref ky, .int 0])), (tl, .inr (4, [.ref tx, .ref ty, .int 1])), (s0, .inr (3, [.ref a0, .ref a1, .ref a2, .ref a3, .ref a4, .ref a5, .ref a6, .int 0, .ref a7, .ref a8, .ref a9, .ref a10, .ref a11, .int 0])), (ou, .inl (C 2, 1, .inr (.inl fo)))]) [0, 1, 2, 3, 4] rfl
      have hDc := hD.sub (ws' := [(h0, .inr (5, [.ref s0, .ref de, .ref kl, .ref tl, .ref cu, .ref hk, .ref ca, .int 0, .int 0, .int (-1), .int 0, .int 0])), (kl, .inr (2, [.ref kx, .ref ky, .int 0])), (tl, .inr (4, [.ref tx, .ref ty, .int 1])), (s0, .inr (3, [.ref a0, .ref a1, .ref a2, .ref a3, .ref a4, .ref a5, .ref a6, .int 0, .ref a7, .ref a8, .ref a9, .ref a10, .ref a11, .int 0])), (ou, .inl (C 2, 1, .inr (.inl fo)))]) [0, 1, 2, 3, 4] (by decide) rfl
      have hFc := va_free (wc := [(h0, .inr (5, [.ref s0, .ref de, .ref kl, .ref tl, .ref cu, .ref hk, .ref ca, .int 0, .int 0, .int (-1), .int 0, .int 0])), (kl, .inr (2, [.ref kx, .ref ky, .int 0])), (tl, .inr (4, [.ref tx, .ref ty, .int 1])), (s0, .inr (3, [.ref a0, .ref a1, .ref a2, .ref a3, .ref a4, .ref a5, .ref a6, .int 0, .ref a7, .ref a8, .ref a9, .ref a10, .ref a11, .int 0])), (ou, .inl (C 2, 1, .inr (.inl fo)))]) hD hS hA [0, 1, 2, 3, 4] rfl
      refine va_calli (vx_runSW (As := [.ref h0, .int (xs (Int32.toNatClampNeg 1)), .int 1, .int 1, .ref ou]) (rest := []) ⟨hx, hb, hml, hown, ht⟩ (kL_level l hl0 D C s.heap.size H.size h0 s0 de kl tl cu hk ca kx ky tx ty a0 a1 a2 a3 a4 a5 a6 a7 a8 a9 a10 a11 ((xs (Int32.toNatClampNeg 1))) 1 1 ou fo) (vx_cwSW 5 ht (xg_T m_645 m_646 m_558 m_486) rfl rfl rfl (by decide +kernel) ⟨Nat.le_of_ble_eq_true rfl, Nat.le_of_ble_eq_true rfl⟩) ⟨xPc_bl, xPc_at hPc hK hDc hE hS hAb⟩ rfl rfl hl.1 rfl (lv_room (Nat.le_of_ble_eq_true rfl)) dL_law_1500 ⟨(by decide), (by decide)⟩) hS (fun q _ h => hFc q h) hFc (fun r_71 u_72 t H1 locs ht1 hvm hw hB hz1 hk1 hS => ?_)
      obtain ⟨hP1, hD1⟩ := hB
      rw [ht1] at hP1
      try dsimp only at hw
      obtain ⟨hP, hD⟩ := va_join (wr := [(mo, .inr (9, [.int 0, .int 0, .ref g2, .ref g3, .ref g4, .ref g5, .ref g6, .ref g7, .ref g8, .ref g9, .ref g10, .ref g11, .ref g12, .ref g13, .ref g14, .ref g15, .ref g16, .ref g17, .ref g18, .ref g19, .int 0, .int 0, .ref g22, .int 0, .ref g24, .int 0, .int 0, .int (-1), .ref g28, .ref g29, .int 0, .int 0]))]) (w1 := [(ou, .inl (C 2, 1, .inr (.inl (u_72))))]) hP hD [0, 1, 2, 3, 4] [5] rfl rfl (by decide) (by decide) hk1 hFc hP1 hD1
      generalize H1 = H at hP hS ⊢
      have hP : va_P D vwCl [(mo, .inr (9, [.int 0, .int 0, .ref g2, .ref g3, .ref g4, .ref g5, .ref g6, .ref g7, .ref g8, .ref g9, .ref g10, .ref g11, .ref g12, .ref g13, .ref g14, .ref g15, .ref g16, .ref g17, .ref g18, .ref g19, .int 0, .int 0, .ref g22, .int 0, .ref g24, .int 0, .int 0, .int (-1), .ref g28, .ref g29, .int 0, .int 0])), (ou, .inl (C 2, 1, .inr (.inl (u_72))))] H := hP
      have hD : va_D A [(mo, .inr (9, [.int 0, .int 0, .ref g2, .ref g3, .ref g4, .ref g5, .ref g6, .ref g7, .ref g8, .ref g9, .ref g10, .ref g11, .ref g12, .ref g13, .ref g14, .ref g15, .ref g16, .ref g17, .ref g18, .ref g19, .int 0, .int 0, .ref g22, .int 0, .ref g24, .int 0, .int 0, .int (-1), .ref g28, .ref g29, .int 0, .int 0])), (ou, .inl (C 2, 1, .inr (.inl (u_72))))] := hD
      have hq_1500 := hw
      obtain rfl : r_71 = (1 : Int32) := hw
      refine W.widen (k := 257) (n := 111955) (by decide) (by decide) ?_
      refine lv_istore (lv' := [(5, .int 1), (4, .int 0), (3, .ref ou), (2, .ref mo), (1, .ref h0), (0, .ref b)]) hx hb dL_law_1503 hl (by decide) rfl (fun ls hl => ?_)
      refine lv_aload_n hx hb dL_law_1505 rfl (lv_at hl 3 rfl) ?_
      refine lv_aload_n hx hb dL_law_1506 rfl (lv_at hl 5 rfl) ?_
      refine lv_iload hx hb dL_law_1507 (lv_at hl 1 rfl) ?_
      refine lv_iconst (v := 1) hx hb dL_law_1509 (by decide) ?_
      refine lv_iadd hx hb dL_law_1510 ?_
      refine lv_topi (fun x_73 ex_73 => ?_)
      obtain rfl : x_73 = (1 : Int32) := ex_73.trans (by decide)
      refine va_sld hx hb hX hbl hbA hS (by unfold vp_in; decide) dL_law_1511 ?_
      refine lv_aload_n hx hb dL_law_1512 rfl (lv_at hl 5 rfl) ?_
      refine lv_iload hx hb dL_law_1513 (lv_at hl 1 rfl) ?_
      refine lv_iconst (v := 2) hx hb dL_law_1515 (by decide) ?_
      refine lv_iadd hx hb dL_law_1516 ?_
      refine lv_topi (fun x_74 ex_74 => ?_)
      obtain rfl : x_74 = (2 : Int32) := ex_74.trans (by decide)
      refine va_sld hx hb hX hbl hbA hS (by unfold vp_in; decide) dL_law_1517 ?_
      refine lv_if_eq (tgt := 1525) hx hb dL_law_1518 (by decide) (fun c_1518 => ?_) (fun c_1518 => ?_)
      · skip
        refine lv_iconst (v := 0) hx hb dL_law_1525 (by decide) ?_
        refine lv_aload_n hx hb dL_law_1526 rfl (lv_at hl 5 rfl) ?_
        refine lv_iload hx hb dL_law_1527 (lv_at hl 1 rfl) ?_
        refine lv_iconst (v := 3) hx hb dL_law_1529 (by decide) ?_
        refine lv_iadd hx hb dL_law_1530 ?_
        refine lv_topi (fun x_75 ex_75 => ?_)
        obtain rfl : x_75 = (3 : Int32) := ex_75.trans (by decide)
        refine va_sld hx hb hX hbl hbA hS (by unfold vp_in; decide) dL_law_1531 ?_
        refine lv_if_eq (tgt := 1539) hx hb dL_law_1532 (by decide) (fun c_1532 => ?_) (fun c_1532 => ?_)
        · skip
          refine lv_iconst (v := 0) hx hb dL_law_1539 (by decide) ?_
          have hPc := hP.sub (ws' := [(mo, .inr (9, [.int 0, .int 0, .ref g2, .ref g3, .ref g4, .ref g5, .ref g6, .ref g7, .ref g8, .ref g9, .ref g10, .ref g11, .ref g12, .ref g13, .ref g14, .ref g15, .ref g16, .ref g17, .ref g18, .ref g19, .int 0, .int 0, .ref g22, .int 0, .ref g24, .int 0, .int 0, .int (-1), .ref g28, .ref g29, .int 0, .int 0]))]) [0] rfl
          have hDc := hD.sub (ws' := [(mo, .inr (9, [.int 0, .int 0, .ref g2, .ref g3, .ref g4, .ref g5, .ref g6, .ref g7, .ref g8, .ref g9, .ref g10, .ref g11, .ref g12, .ref g13, .ref g14, .ref g15, .ref g16, .ref g17, .ref g18, .ref g19, .int 0, .int 0, .ref g22, .int 0, .ref g24, .int 0, .int 0, .int (-1), .ref g28, .ref g29, .int 0, .int 0]))]) [0] (by decide) rfl
          have hFc := va_free (wc := [(mo, .inr (9, [.int 0, .int 0, .ref g2, .ref g3, .ref g4, .ref g5, .ref g6, .ref g7, .ref g8, .ref g9, .ref g10, .ref g11, .ref g12, .ref g13, .ref g14, .ref g15, .ref g16, .ref g17, .ref g18, .ref g19, .int 0, .int 0, .ref g22, .int 0, .ref g24, .int 0, .int 0, .int (-1), .ref g28, .ref g29, .int 0, .int 0]))]) hD hS hA [0] rfl
          refine va_calli (vx_runVW (As := [.int (xs (Int32.toNatClampNeg 1)), .int 0, .int 0]) (rest := []) ⟨hx, hb, hml, hown, ht⟩ (k9p_level l D C s.heap.size H.size mo g2 g3 g4 g5 g6 g7 g8 g9 g10 g11 g12 g13 g14 g15 g16 g17 g18 g19 g22 g24 g28 g29 ((xs (Int32.toNatClampNeg 1))) 0 0) (vx_cwVW 3 ht (xg_V m_647 m_648 m_649 m_391 m_241) rfl rfl rfl (by decide +kernel) ⟨Nat.le_of_ble_eq_true rfl, Nat.le_of_ble_eq_true rfl⟩) ⟨xPc_bl, va_recv hK hPc (ci := 9) (q0 := 0) rfl rfl, xPc_at hPc hK hDc hE hS hAb⟩ rfl rfl hl.1 rfl (lv_room (Nat.le_of_ble_eq_true rfl)) dL_law_1540 ⟨(by decide), (by decide)⟩) hS (fun q _ h => hFc q h) hFc (fun r_76 u_77 t H1 locs ht1 hvm hw hB hz1 hk1 hS => ?_)
          obtain ⟨hP1, hD1⟩ := hB
          rw [ht1] at hP1
          try dsimp only at hw
          obtain ⟨hP, hD⟩ := va_join (wr := [(ou, .inl (C 2, 1, .inr (.inl (u_72))))]) (w1 := [(mo, .inr (9, [.int (u_77.2 0 0), .int (u_77.2 1 0), .ref g2, .ref g3, .ref g4, .ref g5, .ref g6, .ref g7, .ref g8, .ref g9, .ref g10, .ref g11, .ref g12, .ref g13, .ref g14, .ref g15, .ref g16, .ref g17, .ref g18, .ref g19, .int (u_77.2 2 0), .int (u_77.2 3 0), .ref g22, .int (u_77.2 4 0), .ref g24, .int (u_77.2 5 0), .int (u_77.2 6 0), .int (u_77.2 7 0), .ref g28, .ref g29, .int (u_77.2 8 0), .int (u_77.2 9 0)]))]) hP hD [0] [1] rfl rfl (by decide) (by decide) hk1 hFc hP1 hD1
          generalize H1 = H at hP hS ⊢
          have hP : va_P D vwCl [(ou, .inl (C 2, 1, .inr (.inl (u_72)))), (mo, .inr (9, [.int (u_77.2 0 0), .int (u_77.2 1 0), .ref g2, .ref g3, .ref g4, .ref g5, .ref g6, .ref g7, .ref g8, .ref g9, .ref g10, .ref g11, .ref g12, .ref g13, .ref g14, .ref g15, .ref g16, .ref g17, .ref g18, .ref g19, .int (u_77.2 2 0), .int (u_77.2 3 0), .ref g22, .int (u_77.2 4 0), .ref g24, .int (u_77.2 5 0), .int (u_77.2 6 0), .int (u_77.2 7 0), .ref g28, .ref g29, .int (u_77.2 8 0), .int (u_77.2 9 0)]))] H := hP
          have hD : va_D A [(ou, .inl (C 2, 1, .inr (.inl (u_72)))), (mo, .inr (9, [.int (u_77.2 0 0), .int (u_77.2 1 0), .ref g2, .ref g3, .ref g4, .ref g5, .ref g6, .ref g7, .ref g8, .ref g9, .ref g10, .ref g11, .ref g12, .ref g13, .ref g14, .ref g15, .ref g16, .ref g17, .ref g18, .ref g19, .int (u_77.2 2 0), .int (u_77.2 3 0), .ref g22, .int (u_77.2 4 0), .ref g24, .int (u_77.2 5 0), .int (u_77.2 6 0), .int (u_77.2 7 0), .ref g28, .ref g29, .int (u_77.2 8 0), .int (u_77.2 9 0)]))] := hD
          have hq_1540 := hw
          refine W.widen (k := 258) (n := 111962) (by decide) (by decide) ?_
          refine lv_istore (lv' := [(6, .int r_76), (5, .int 1), (4, .int 0), (3, .ref ou), (2, .ref mo), (1, .ref h0), (0, .ref b)]) hx hb dL_law_1543 hl (by decide) rfl (fun ls hl => ?_)
          refine lv_aload_n hx hb dL_law_1545 rfl (lv_at hl 4 rfl) ?_
          have hPc := hP.sub (ws' := [(mo, .inr (9, [.int (u_77.2 0 0), .int (u_77.2 1 0), .ref g2, .ref g3, .ref g4, .ref g5, .ref g6, .ref g7, .ref g8, .ref g9, .ref g10, .ref g11, .ref g12, .ref g13, .ref g14, .ref g15, .ref g16, .ref g17, .ref g18, .ref g19, .int (u_77.2 2 0), .int (u_77.2 3 0), .ref g22, .int (u_77.2 4 0), .ref g24, .int (u_77.2 5 0), .int (u_77.2 6 0), .int (u_77.2 7 0), .ref g28, .ref g29, .int (u_77.2 8 0), .int (u_77.2 9 0)]))]) [1] rfl
          have hDc := hD.sub (ws' := [(mo, .inr (9, [.int (u_77.2 0 0), .int (u_77.2 1 0), .ref g2, .ref g3, .ref g4, .ref g5, .ref g6, .ref g7, .ref g8, .ref g9, .ref g10, .ref g11, .ref g12, .ref g13, .ref g14, .ref g15, .ref g16, .ref g17, .ref g18, .ref g19, .int (u_77.2 2 0), .int (u_77.2 3 0), .ref g22, .int (u_77.2 4 0), .ref g24, .int (u_77.2 5 0), .int (u_77.2 6 0), .int (u_77.2 7 0), .ref g28, .ref g29, .int (u_77.2 8 0), .int (u_77.2 9 0)]))]) [1] (by decide) rfl
          have hFc := va_free (wc := [(mo, .inr (9, [.int (u_77.2 0 0), .int (u_77.2 1 0), .ref g2, .ref g3, .ref g4, .ref g5, .ref g6, .ref g7, .ref g8, .ref g9, .ref g10, .ref g11, .ref g12, .ref g13, .ref g14, .ref g15, .ref g16, .ref g17, .ref g18, .ref g19, .int (u_77.2 2 0), .int (u_77.2 3 0), .ref g22, .int (u_77.2 4 0), .ref g24, .int (u_77.2 5 0), .int (u_77.2 6 0), .int (u_77.2 7 0), .ref g28, .ref g29, .int (u_77.2 8 0), .int (u_77.2 9 0)]))]) hD hS hA [1] rfl
          refine va_calli (va_runV (As := []) (rest := []) ⟨hx, hb, hml, hown, ht⟩ (k9_thrown l D C s.heap.size H.size mo g2 g3 g4 g5 g6 g7 g8 g9 g10 g11 g12 g13 g14 g15 g16 g17 g18 g19 g22 g24 g28 g29 (u_77.2 0 0) (u_77.2 1 0) (u_77.2 2 0) (u_77.2 3 0) (u_77.2 4 0) (u_77.2 5 0) (u_77.2 6 0) (u_77.2 7 0) (u_77.2 8 0) (u_77.2 9 0)) (cwV 0 ht (xg_V m_562 m_563 m_564 m_391 m_221) rfl rfl rfl (by decide +kernel) ⟨Nat.le_of_ble_eq_true rfl, Nat.le_of_ble_eq_true rfl⟩) ⟨xPc_bl, va_recv hK hPc (ci := 9) (q0 := 0) rfl rfl, xPc_at hPc hK hDc hE hS hAb⟩ rfl rfl hl.1 rfl (lv_room (Nat.le_of_ble_eq_true rfl)) dL_law_1546 ⟨(by decide), (by decide)⟩) hS (fun q _ h => hFc q h) hFc (fun r_78 u_79 t H1 locs ht1 hvm hw hB hz1 hk1 hS => ?_)
          obtain ⟨hP1, hD1⟩ := hB
          rw [ht1] at hP1
          try dsimp only at hw
          obtain ⟨hP, hD⟩ := va_join (wr := [(ou, .inl (C 2, 1, .inr (.inl (u_72))))]) (w1 := [(mo, .inr (9, [.int (u_77.2 0 0), .int (u_77.2 1 0), .ref g2, .ref g3, .ref g4, .ref g5, .ref g6, .ref g7, .ref g8, .ref g9, .ref g10, .ref g11, .ref g12, .ref g13, .ref g14, .ref g15, .ref g16, .ref g17, .ref g18, .ref g19, .int (u_77.2 2 0), .int (u_77.2 3 0), .ref g22, .int (u_77.2 4 0), .ref g24, .int (u_77.2 5 0), .int (u_77.2 6 0), .int (u_77.2 7 0), .ref g28, .ref g29, .int (u_77.2 8 0), .int (u_77.2 9 0)]))]) hP hD [1] [0] rfl rfl (by decide) (by decide) hk1 hFc hP1 hD1
          generalize H1 = H at hP hS ⊢
          have hP : va_P D vwCl [(ou, .inl (C 2, 1, .inr (.inl (u_72)))), (mo, .inr (9, [.int (u_77.2 0 0), .int (u_77.2 1 0), .ref g2, .ref g3, .ref g4, .ref g5, .ref g6, .ref g7, .ref g8, .ref g9, .ref g10, .ref g11, .ref g12, .ref g13, .ref g14, .ref g15, .ref g16, .ref g17, .ref g18, .ref g19, .int (u_77.2 2 0), .int (u_77.2 3 0), .ref g22, .int (u_77.2 4 0), .ref g24, .int (u_77.2 5 0), .int (u_77.2 6 0), .int (u_77.2 7 0), .ref g28, .ref g29, .int (u_77.2 8 0), .int (u_77.2 9 0)]))] H := hP
          have hD : va_D A [(ou, .inl (C 2, 1, .inr (.inl (u_72)))), (mo, .inr (9, [.int (u_77.2 0 0), .int (u_77.2 1 0), .ref g2, .ref g3, .ref g4, .ref g5, .ref g6, .ref g7, .ref g8, .ref g9, .ref g10, .ref g11, .ref g12, .ref g13, .ref g14, .ref g15, .ref g16, .ref g17, .ref g18, .ref g19, .int (u_77.2 2 0), .int (u_77.2 3 0), .ref g22, .int (u_77.2 4 0), .ref g24, .int (u_77.2 5 0), .int (u_77.2 6 0), .int (u_77.2 7 0), .ref g28, .ref g29, .int (u_77.2 8 0), .int (u_77.2 9 0)]))] := hD
          have hq_1546 := hw
          obtain rfl : r_78 = (1 : Int32) := hw.trans hq_1540
          refine lv_iload hx hb dL_law_1549 (lv_at hl 1 rfl) ?_
          refine lv_icmp_eq (tgt := 1556) hx hb dL_law_1551 (by decide) (fun c_1551 => ?_) (fun c_1551 => ?_)
          rotate_left
          · exact absurd c_1551 (by decide)
          refine lv_iload hx hb dL_law_1556 (lv_at hl 1 rfl) ?_
          refine lv_if_ne (tgt := 1580) hx hb dL_law_1558 (by decide) (fun c_1558 => ?_) (fun c_1558 => ?_)
          rotate_left
          · exact absurd c_1558 (by decide)
          refine lv_goto (tgt := 1732) hx hb dL_law_1580 (by decide) ?_
          exact lc_end ⟨hl0, hx, hb, hr, hml, hown, ht, hX, hbl, hlocks, hK, hE, hA, hAs, hbA⟩ (by decide) (by decide) hS (lv_sub hl [2, 6] rfl)
        · skip
          refine lv_iconst (v := 1) hx hb dL_law_1535 (by decide) ?_
          refine lv_goto (tgt := 1540) hx hb dL_law_1536 (by decide) ?_
          have hPc := hP.sub (ws' := [(mo, .inr (9, [.int 0, .int 0, .ref g2, .ref g3, .ref g4, .ref g5, .ref g6, .ref g7, .ref g8, .ref g9, .ref g10, .ref g11, .ref g12, .ref g13, .ref g14, .ref g15, .ref g16, .ref g17, .ref g18, .ref g19, .int 0, .int 0, .ref g22, .int 0, .ref g24, .int 0, .int 0, .int (-1), .ref g28, .ref g29, .int 0, .int 0]))]) [0] rfl
          have hDc := hD.sub (ws' := [(mo, .inr (9, [.int 0, .int 0, .ref g2, .ref g3, .ref g4, .ref g5, .ref g6, .ref g7, .ref g8, .ref g9, .ref g10, .ref g11, .ref g12, .ref g13, .ref g14, .ref g15, .ref g16, .ref g17, .ref g18, .ref g19, .int 0, .int 0, .ref g22, .int 0, .ref g24, .int 0, .int 0, .int (-1), .ref g28, .ref g29, .int 0, .int 0]))]) [0] (by decide) rfl
          have hFc := va_free (wc := [(mo, .inr (9, [.int 0, .int 0, .ref g2, .ref g3, .ref g4, .ref g5, .ref g6, .ref g7, .ref g8, .ref g9, .ref g10, .ref g11, .ref g12, .ref g13, .ref g14, .ref g15, .ref g16, .ref g17, .ref g18, .ref g19, .int 0, .int 0, .ref g22, .int 0, .ref g24, .int 0, .int 0, .int (-1), .ref g28, .ref g29, .int 0, .int 0]))]) hD hS hA [0] rfl
          refine va_calli (vx_runVW (As := [.int (xs (Int32.toNatClampNeg 1)), .int 0, .int 1]) (rest := []) ⟨hx, hb, hml, hown, ht⟩ (k9p_level l D C s.heap.size H.size mo g2 g3 g4 g5 g6 g7 g8 g9 g10 g11 g12 g13 g14 g15 g16 g17 g18 g19 g22 g24 g28 g29 ((xs (Int32.toNatClampNeg 1))) 0 1) (vx_cwVW 3 ht (xg_V m_647 m_648 m_649 m_391 m_241) rfl rfl rfl (by decide +kernel) ⟨Nat.le_of_ble_eq_true rfl, Nat.le_of_ble_eq_true rfl⟩) ⟨xPc_bl, va_recv hK hPc (ci := 9) (q0 := 0) rfl rfl, xPc_at hPc hK hDc hE hS hAb⟩ rfl rfl hl.1 rfl (lv_room (Nat.le_of_ble_eq_true rfl)) dL_law_1540 ⟨(by decide), (by decide)⟩) hS (fun q _ h => hFc q h) hFc (fun r_80 u_81 t H1 locs ht1 hvm hw hB hz1 hk1 hS => ?_)
          obtain ⟨hP1, hD1⟩ := hB
          rw [ht1] at hP1
          try dsimp only at hw
          obtain ⟨hP, hD⟩ := va_join (wr := [(ou, .inl (C 2, 1, .inr (.inl (u_72))))]) (w1 := [(mo, .inr (9, [.int (u_81.2 0 0), .int (u_81.2 1 0), .ref g2, .ref g3, .ref g4, .ref g5, .ref g6, .ref g7, .ref g8, .ref g9, .ref g10, .ref g11, .ref g12, .ref g13, .ref g14, .ref g15, .ref g16, .ref g17, .ref g18, .ref g19, .int (u_81.2 2 0), .int (u_81.2 3 0), .ref g22, .int (u_81.2 4 0), .ref g24, .int (u_81.2 5 0), .int (u_81.2 6 0), .int (u_81.2 7 0), .ref g28, .ref g29, .int (u_81.2 8 0), .int (u_81.2 9 0)]))]) hP hD [0] [1] rfl rfl (by decide) (by decide) hk1 hFc hP1 hD1
          generalize H1 = H at hP hS ⊢
          have hP : va_P D vwCl [(ou, .inl (C 2, 1, .inr (.inl (u_72)))), (mo, .inr (9, [.int (u_81.2 0 0), .int (u_81.2 1 0), .ref g2, .ref g3, .ref g4, .ref g5, .ref g6, .ref g7, .ref g8, .ref g9, .ref g10, .ref g11, .ref g12, .ref g13, .ref g14, .ref g15, .ref g16, .ref g17, .ref g18, .ref g19, .int (u_81.2 2 0), .int (u_81.2 3 0), .ref g22, .int (u_81.2 4 0), .ref g24, .int (u_81.2 5 0), .int (u_81.2 6 0), .int (u_81.2 7 0), .ref g28, .ref g29, .int (u_81.2 8 0), .int (u_81.2 9 0)]))] H := hP
          have hD : va_D A [(ou, .inl (C 2, 1, .inr (.inl (u_72)))), (mo, .inr (9, [.int (u_81.2 0 0), .int (u_81.2 1 0), .ref g2, .ref g3, .ref g4, .ref g5, .ref g6, .ref g7, .ref g8, .ref g9, .ref g10, .ref g11, .ref g12, .ref g13, .ref g14, .ref g15, .ref g16, .ref g17, .ref g18, .ref g19, .int (u_81.2 2 0), .int (u_81.2 3 0), .ref g22, .int (u_81.2 4 0), .ref g24, .int (u_81.2 5 0), .int (u_81.2 6 0), .int (u_81.2 7 0), .ref g28, .ref g29, .int (u_81.2 8 0), .int (u_81.2 9 0)]))] := hD
          have hq_1540 := hw
          refine W.widen (k := 258) (n := 111962) (by decide) (by decide) ?_
          refine lv_istore (lv' := [(6, .int r_80), (5, .int 1), (4, .int 0), (3, .ref ou), (2, .ref mo), (1, .ref h0), (0, .ref b)]) hx hb dL_law_1543 hl (by decide) rfl (fun ls hl => ?_)
          refine lv_aload_n hx hb dL_law_1545 rfl (lv_at hl 4 rfl) ?_
          have hPc := hP.sub (ws' := [(mo, .inr (9, [.int (u_81.2 0 0), .int (u_81.2 1 0), .ref g2, .ref g3, .ref g4, .ref g5, .ref g6, .ref g7, .ref g8, .ref g9, .ref g10, .ref g11, .ref g12, .ref g13, .ref g14, .ref g15, .ref g16, .ref g17, .ref g18, .ref g19, .int (u_81.2 2 0), .int (u_81.2 3 0), .ref g22, .int (u_81.2 4 0), .ref g24, .int (u_81.2 5 0), .int (u_81.2 6 0), .int (u_81.2 7 0), .ref g28, .ref g29, .int (u_81.2 8 0), .int (u_81.2 9 0)]))]) [1] rfl
          have hDc := hD.sub (ws' := [(mo, .inr (9, [.int (u_81.2 0 0), .int (u_81.2 1 0), .ref g2, .ref g3, .ref g4, .ref g5, .ref g6, .ref g7, .ref g8, .ref g9, .ref g10, .ref g11, .ref g12, .ref g13, .ref g14, .ref g15, .ref g16, .ref g17, .ref g18, .ref g19, .int (u_81.2 2 0), .int (u_81.2 3 0), .ref g22, .int (u_81.2 4 0), .ref g24, .int (u_81.2 5 0), .int (u_81.2 6 0), .int (u_81.2 7 0), .ref g28, .ref g29, .int (u_81.2 8 0), .int (u_81.2 9 0)]))]) [1] (by decide) rfl
          have hFc := va_free (wc := [(mo, .inr (9, [.int (u_81.2 0 0), .int (u_81.2 1 0), .ref g2, .ref g3, .ref g4, .ref g5, .ref g6, .ref g7, .ref g8, .ref g9, .ref g10, .ref g11, .ref g12, .ref g13, .ref g14, .ref g15, .ref g16, .ref g17, .ref g18, .ref g19, .int (u_81.2 2 0), .int (u_81.2 3 0), .ref g22, .int (u_81.2 4 0), .ref g24, .int (u_81.2 5 0), .int (u_81.2 6 0), .int (u_81.2 7 0), .ref g28, .ref g29, .int (u_81.2 8 0), .int (u_81.2 9 0)]))]) hD hS hA [1] rfl
          refine va_calli (va_runV (As := []) (rest := []) ⟨hx, hb, hml, hown, ht⟩ (k9_thrown l D C s.heap.size H.size mo g2 g3 g4 g5 g6 g7 g8 g9 g10 g11 g12 g13 g14 g15 g16 g17 g18 g19 g22 g24 g28 g29 (u_81.2 0 0) (u_81.2 1 0) (u_81.2 2 0) (u_81.2 3 0) (u_81.2 4 0) (u_81.2 5 0) (u_81.2 6 0) (u_81.2 7 0) (u_81.2 8 0) (u_81.2 9 0)) (cwV 0 ht (xg_V m_562 m_563 m_564 m_391 m_221) rfl rfl rfl (by decide +kernel) ⟨Nat.le_of_ble_eq_true rfl, Nat.le_of_ble_eq_true rfl⟩) ⟨xPc_bl, va_recv hK hPc (ci := 9) (q0 := 0) rfl rfl, xPc_at hPc hK hDc hE hS hAb⟩ rfl rfl hl.1 rfl (lv_room (Nat.le_of_ble_eq_true rfl)) dL_law_1546 ⟨(by decide), (by decide)⟩) hS (fun q _ h => hFc q h) hFc (fun r_82 u_83 t H1 locs ht1 hvm hw hB hz1 hk1 hS => ?_)
          obtain ⟨hP1, hD1⟩ := hB
          rw [ht1] at hP1
          try dsimp only at hw
          obtain ⟨hP, hD⟩ := va_join (wr := [(ou, .inl (C 2, 1, .inr (.inl (u_72))))]) (w1 := [(mo, .inr (9, [.int (u_81.2 0 0), .int (u_81.2 1 0), .ref g2, .ref g3, .ref g4, .ref g5, .ref g6, .ref g7, .ref g8, .ref g9, .ref g10, .ref g11, .ref g12, .ref g13, .ref g14, .ref g15, .ref g16, .ref g17, .ref g18, .ref g19, .int (u_81.2 2 0), .int (u_81.2 3 0), .ref g22, .int (u_81.2 4 0), .ref g24, .int (u_81.2 5 0), .int (u_81.2 6 0), .int (u_81.2 7 0), .ref g28, .ref g29, .int (u_81.2 8 0), .int (u_81.2 9 0)]))]) hP hD [1] [0] rfl rfl (by decide) (by decide) hk1 hFc hP1 hD1
          generalize H1 = H at hP hS ⊢
          have hP : va_P D vwCl [(ou, .inl (C 2, 1, .inr (.inl (u_72)))), (mo, .inr (9, [.int (u_81.2 0 0), .int (u_81.2 1 0), .ref g2, .ref g3, .ref g4, .ref g5, .ref g6, .ref g7, .ref g8, .ref g9, .ref g10, .ref g11, .ref g12, .ref g13, .ref g14, .ref g15, .ref g16, .ref g17, .ref g18, .ref g19, .int (u_81.2 2 0), .int (u_81.2 3 0), .ref g22, .int (u_81.2 4 0), .ref g24, .int (u_81.2 5 0), .int (u_81.2 6 0), .int (u_81.2 7 0), .ref g28, .ref g29, .int (u_81.2 8 0), .int (u_81.2 9 0)]))] H := hP
          have hD : va_D A [(ou, .inl (C 2, 1, .inr (.inl (u_72)))), (mo, .inr (9, [.int (u_81.2 0 0), .int (u_81.2 1 0), .ref g2, .ref g3, .ref g4, .ref g5, .ref g6, .ref g7, .ref g8, .ref g9, .ref g10, .ref g11, .ref g12, .ref g13, .ref g14, .ref g15, .ref g16, .ref g17, .ref g18, .ref g19, .int (u_81.2 2 0), .int (u_81.2 3 0), .ref g22, .int (u_81.2 4 0), .ref g24, .int (u_81.2 5 0), .int (u_81.2 6 0), .int (u_81.2 7 0), .ref g28, .ref g29, .int (u_81.2 8 0), .int (u_81.2 9 0)]))] := hD
          have hq_1546 := hw
          obtain rfl : r_82 = (1 : Int32) := hw.trans hq_1540
          refine lv_iload hx hb dL_law_1549 (lv_at hl 1 rfl) ?_
          refine lv_icmp_eq (tgt := 1556) hx hb dL_law_1551 (by decide) (fun c_1551 => ?_) (fun c_1551 => ?_)
          rotate_left
          · exact absurd c_1551 (by decide)
          refine lv_iload hx hb dL_law_1556 (lv_at hl 1 rfl) ?_
          refine lv_if_ne (tgt := 1580) hx hb dL_law_1558 (by decide) (fun c_1558 => ?_) (fun c_1558 => ?_)
          rotate_left
          · exact absurd c_1558 (by decide)
          refine lv_goto (tgt := 1732) hx hb dL_law_1580 (by decide) ?_
          exact lc_end ⟨hl0, hx, hb, hr, hml, hown, ht, hX, hbl, hlocks, hK, hE, hA, hAs, hbA⟩ (by decide) (by decide) hS (lv_sub hl [2, 6] rfl)
      · skip
        refine lv_iconst (v := 1) hx hb dL_law_1521 (by decide) ?_
        refine lv_goto (tgt := 1526) hx hb dL_law_1522 (by decide) ?_
        refine lv_aload_n hx hb dL_law_1526 rfl (lv_at hl 5 rfl) ?_
        refine lv_iload hx hb dL_law_1527 (lv_at hl 1 rfl) ?_
        refine lv_iconst (v := 3) hx hb dL_law_1529 (by decide) ?_
        refine lv_iadd hx hb dL_law_1530 ?_
        refine lv_topi (fun x_84 ex_84 => ?_)
        obtain rfl : x_84 = (3 : Int32) := ex_84.trans (by decide)
        refine va_sld hx hb hX hbl hbA hS (by unfold vp_in; decide) dL_law_1531 ?_
        refine lv_if_eq (tgt := 1539) hx hb dL_law_1532 (by decide) (fun c_1532 => ?_) (fun c_1532 => ?_)
        · skip
          refine lv_iconst (v := 0) hx hb dL_law_1539 (by decide) ?_
          have hPc := hP.sub (ws' := [(mo, .inr (9, [.int 0, .int 0, .ref g2, .ref g3, .ref g4, .ref g5, .ref g6, .ref g7, .ref g8, .ref g9, .ref g10, .ref g11, .ref g12, .ref g13, .ref g14, .ref g15, .ref g16, .ref g17, .ref g18, .ref g19, .int 0, .int 0, .ref g22, .int 0, .ref g24, .int 0, .int 0, .int (-1), .ref g28, .ref g29, .int 0, .int 0]))]) [0] rfl
          have hDc := hD.sub (ws' := [(mo, .inr (9, [.int 0, .int 0, .ref g2, .ref g3, .ref g4, .ref g5, .ref g6, .ref g7, .ref g8, .ref g9, .ref g10, .ref g11, .ref g12, .ref g13, .ref g14, .ref g15, .ref g16, .ref g17, .ref g18, .ref g19, .int 0, .int 0, .ref g22, .int 0, .ref g24, .int 0, .int 0, .int (-1), .ref g28, .ref g29, .int 0, .int 0]))]) [0] (by decide) rfl
          have hFc := va_free (wc := [(mo, .inr (9, [.int 0, .int 0, .ref g2, .ref g3, .ref g4, .ref g5, .ref g6, .ref g7, .ref g8, .ref g9, .ref g10, .ref g11, .ref g12, .ref g13, .ref g14, .ref g15, .ref g16, .ref g17, .ref g18, .ref g19, .int 0, .int 0, .ref g22, .int 0, .ref g24, .int 0, .int 0, .int (-1), .ref g28, .ref g29, .int 0, .int 0]))]) hD hS hA [0] rfl
          refine va_calli (vx_runVW (As := [.int (xs (Int32.toNatClampNeg 1)), .int 1, .int 0]) (rest := []) ⟨hx, hb, hml, hown, ht⟩ (k9p_level l D C s.heap.size H.size mo g2 g3 g4 g5 g6 g7 g8 g9 g10 g11 g12 g13 g14 g15 g16 g17 g18 g19 g22 g24 g28 g29 ((xs (Int32.toNatClampNeg 1))) 1 0) (vx_cwVW 3 ht (xg_V m_647 m_648 m_649 m_391 m_241) rfl rfl rfl (by decide +kernel) ⟨Nat.le_of_ble_eq_true rfl, Nat.le_of_ble_eq_true rfl⟩) ⟨xPc_bl, va_recv hK hPc (ci := 9) (q0 := 0) rfl rfl, xPc_at hPc hK hDc hE hS hAb⟩ rfl rfl hl.1 rfl (lv_room (Nat.le_of_ble_eq_true rfl)) dL_law_1540 ⟨(by decide), (by decide)⟩) hS (fun q _ h => hFc q h) hFc (fun r_85 u_86 t H1 locs ht1 hvm hw hB hz1 hk1 hS => ?_)
          obtain ⟨hP1, hD1⟩ := hB
          rw [ht1] at hP1
          try dsimp only at hw
          obtain ⟨hP, hD⟩ := va_join (wr := [(ou, .inl (C 2, 1, .inr (.inl (u_72))))]) (w1 := [(mo, .inr (9, [.int (u_86.2 0 0), .int (u_86.2 1 0), .ref g2, .ref g3, .ref g4, .ref g5, .ref g6, .ref g7, .ref g8, .ref g9, .ref g10, .ref g11, .ref g12, .ref g13, .ref g14, .ref g15, .ref g16, .ref g17, .ref g18, .ref g19, .int (u_86.2 2 0), .int (u_86.2 3 0), .ref g22, .int (u_86.2 4 0), .ref g24, .int (u_86.2 5 0), .int (u_86.2 6 0), .int (u_86.2 7 0), .ref g28, .ref g29, .int (u_86.2 8 0), .int (u_86.2 9 0)]))]) hP hD [0] [1] rfl rfl (by decide) (by decide) hk1 hFc hP1 hD1
          generalize H1 = H at hP hS ⊢
          have hP : va_P D vwCl [(ou, .inl (C 2, 1, .inr (.inl (u_72)))), (mo, .inr (9, [.int (u_86.2 0 0), .int (u_86.2 1 0), .ref g2, .ref g3, .ref g4, .ref g5, .ref g6, .ref g7, .ref g8, .ref g9, .ref g10, .ref g11, .ref g12, .ref g13, .ref g14, .ref g15, .ref g16, .ref g17, .ref g18, .ref g19, .int (u_86.2 2 0), .int (u_86.2 3 0), .ref g22, .int (u_86.2 4 0), .ref g24, .int (u_86.2 5 0), .int (u_86.2 6 0), .int (u_86.2 7 0), .ref g28, .ref g29, .int (u_86.2 8 0), .int (u_86.2 9 0)]))] H := hP
          have hD : va_D A [(ou, .inl (C 2, 1, .inr (.inl (u_72)))), (mo, .inr (9, [.int (u_86.2 0 0), .int (u_86.2 1 0), .ref g2, .ref g3, .ref g4, .ref g5, .ref g6, .ref g7, .ref g8, .ref g9, .ref g10, .ref g11, .ref g12, .ref g13, .ref g14, .ref g15, .ref g16, .ref g17, .ref g18, .ref g19, .int (u_86.2 2 0), .int (u_86.2 3 0), .ref g22, .int (u_86.2 4 0), .ref g24, .int (u_86.2 5 0), .int (u_86.2 6 0), .int (u_86.2 7 0), .ref g28, .ref g29, .int (u_86.2 8 0), .int (u_86.2 9 0)]))] := hD
          have hq_1540 := hw
          refine W.widen (k := 258) (n := 111962) (by decide) (by decide) ?_
          refine lv_istore (lv' := [(6, .int r_85), (5, .int 1), (4, .int 0), (3, .ref ou), (2, .ref mo), (1, .ref h0), (0, .ref b)]) hx hb dL_law_1543 hl (by decide) rfl (fun ls hl => ?_)
          refine lv_aload_n hx hb dL_law_1545 rfl (lv_at hl 4 rfl) ?_
          have hPc := hP.sub (ws' := [(mo, .inr (9, [.int (u_86.2 0 0), .int (u_86.2 1 0), .ref g2, .ref g3, .ref g4, .ref g5, .ref g6, .ref g7, .ref g8, .ref g9, .ref g10, .ref g11, .ref g12, .ref g13, .ref g14, .ref g15, .ref g16, .ref g17, .ref g18, .ref g19, .int (u_86.2 2 0), .int (u_86.2 3 0), .ref g22, .int (u_86.2 4 0), .ref g24, .int (u_86.2 5 0), .int (u_86.2 6 0), .int (u_86.2 7 0), .ref g28, .ref g29, .int (u_86.2 8 0), .int (u_86.2 9 0)]))]) [1] rfl
          have hDc := hD.sub (ws' := [(mo, .inr (9, [.int (u_86.2 0 0), .int (u_86.2 1 0), .ref g2, .ref g3, .ref g4, .ref g5, .ref g6, .ref g7, .ref g8, .ref g9, .ref g10, .ref g11, .ref g12, .ref g13, .ref g14, .ref g15, .ref g16, .ref g17, .ref g18, .ref g19, .int (u_86.2 2 0), .int (u_86.2 3 0), .ref g22, .int (u_86.2 4 0), .ref g24, .int (u_86.2 5 0), .int (u_86.2 6 0), .int (u_86.2 7 0), .ref g28, .ref g29, .int (u_86.2 8 0), .int (u_86.2 9 0)]))]) [1] (by decide) rfl
          have hFc := va_free (wc := [(mo, .inr (9, [.int (u_86.2 0 0), .int (u_86.2 1 0), .ref g2, .ref g3, .ref g4, .ref g5, .ref g6, .ref g7, .ref g8, .ref g9, .ref g10, .ref g11, .ref g12, .ref g13, .ref g14, .ref g15, .ref g16, .ref g17, .ref g18, .ref g19, .int (u_86.2 2 0), .int (u_86.2 3 0), .ref g22, .int (u_86.2 4 0), .ref g24, .int (u_86.2 5 0), .int (u_86.2 6 0), .int (u_86.2 7 0), .ref g28, .ref g29, .int (u_86.2 8 0), .int (u_86.2 9 0)]))]) hD hS hA [1] rfl
          refine va_calli (va_runV (As := []) (rest := []) ⟨hx, hb, hml, hown, ht⟩ (k9_thrown l D C s.heap.size H.size mo g2 g3 g4 g5 g6 g7 g8 g9 g10 g11 g12 g13 g14 g15 g16 g17 g18 g19 g22 g24 g28 g29 (u_86.2 0 0) (u_86.2 1 0) (u_86.2 2 0) (u_86.2 3 0) (u_86.2 4 0) (u_86.2 5 0) (u_86.2 6 0) (u_86.2 7 0) (u_86.2 8 0) (u_86.2 9 0)) (cwV 0 ht (xg_V m_562 m_563 m_564 m_391 m_221) rfl rfl rfl (by decide +kernel) ⟨Nat.le_of_ble_eq_true rfl, Nat.le_of_ble_eq_true rfl⟩) ⟨xPc_bl, va_recv hK hPc (ci := 9) (q0 := 0) rfl rfl, xPc_at hPc hK hDc hE hS hAb⟩ rfl rfl hl.1 rfl (lv_room (Nat.le_of_ble_eq_true rfl)) dL_law_1546 ⟨(by decide), (by decide)⟩) hS (fun q _ h => hFc q h) hFc (fun r_87 u_88 t H1 locs ht1 hvm hw hB hz1 hk1 hS => ?_)
          obtain ⟨hP1, hD1⟩ := hB
          rw [ht1] at hP1
          try dsimp only at hw
          obtain ⟨hP, hD⟩ := va_join (wr := [(ou, .inl (C 2, 1, .inr (.inl (u_72))))]) (w1 := [(mo, .inr (9, [.int (u_86.2 0 0), .int (u_86.2 1 0), .ref g2, .ref g3, .ref g4, .ref g5, .ref g6, .ref g7, .ref g8, .ref g9, .ref g10, .ref g11, .ref g12, .ref g13, .ref g14, .ref g15, .ref g16, .ref g17, .ref g18, .ref g19, .int (u_86.2 2 0), .int (u_86.2 3 0), .ref g22, .int (u_86.2 4 0), .ref g24, .int (u_86.2 5 0), .int (u_86.2 6 0), .int (u_86.2 7 0), .ref g28, .ref g29, .int (u_86.2 8 0), .int (u_86.2 9 0)]))]) hP hD [1] [0] rfl rfl (by decide) (by decide) hk1 hFc hP1 hD1
          generalize H1 = H at hP hS ⊢
          have hP : va_P D vwCl [(ou, .inl (C 2, 1, .inr (.inl (u_72)))), (mo, .inr (9, [.int (u_86.2 0 0), .int (u_86.2 1 0), .ref g2, .ref g3, .ref g4, .ref g5, .ref g6, .ref g7, .ref g8, .ref g9, .ref g10, .ref g11, .ref g12, .ref g13, .ref g14, .ref g15, .ref g16, .ref g17, .ref g18, .ref g19, .int (u_86.2 2 0), .int (u_86.2 3 0), .ref g22, .int (u_86.2 4 0), .ref g24, .int (u_86.2 5 0), .int (u_86.2 6 0), .int (u_86.2 7 0), .ref g28, .ref g29, .int (u_86.2 8 0), .int (u_86.2 9 0)]))] H := hP
          have hD : va_D A [(ou, .inl (C 2, 1, .inr (.inl (u_72)))), (mo, .inr (9, [.int (u_86.2 0 0), .int (u_86.2 1 0), .ref g2, .ref g3, .ref g4, .ref g5, .ref g6, .ref g7, .ref g8, .ref g9, .ref g10, .ref g11, .ref g12, .ref g13, .ref g14, .ref g15, .ref g16, .ref g17, .ref g18, .ref g19, .int (u_86.2 2 0), .int (u_86.2 3 0), .ref g22, .int (u_86.2 4 0), .ref g24, .int (u_86.2 5 0), .int (u_86.2 6 0), .int (u_86.2 7 0), .ref g28, .ref g29, .int (u_86.2 8 0), .int (u_86.2 9 0)]))] := hD
          have hq_1546 := hw
          obtain rfl : r_87 = (1 : Int32) := hw.trans hq_1540
          refine lv_iload hx hb dL_law_1549 (lv_at hl 1 rfl) ?_
          refine lv_icmp_eq (tgt := 1556) hx hb dL_law_1551 (by decide) (fun c_1551 => ?_) (fun c_1551 => ?_)
          rotate_left
          · exact absurd c_1551 (by decide)
          refine lv_iload hx hb dL_law_1556 (lv_at hl 1 rfl) ?_
          refine lv_if_ne (tgt := 1580) hx hb dL_law_1558 (by decide) (fun c_1558 => ?_) (fun c_1558 => ?_)
          rotate_left
          · exact absurd c_1558 (by decide)
          refine lv_goto (tgt := 1732) hx hb dL_law_1580 (by decide) ?_
          exact lc_end ⟨hl0, hx, hb, hr, hml, hown, ht, hX, hbl, hlocks, hK, hE, hA, hAs, hbA⟩ (by decide) (by decide) hS (lv_sub hl [2, 6] rfl)
        · skip
          refine lv_iconst (v := 1) hx hb dL_law_1535 (by decide) ?_
          refine lv_goto (tgt := 1540) hx hb dL_law_1536 (by decide) ?_
          have hPc := hP.sub (ws' := [(mo, .inr (9, [.int 0, .int 0, .ref g2, .ref g3, .ref g4, .ref g5, .ref g6, .ref g7, .ref g8, .ref g9, .ref g10, .ref g11, .ref g12, .ref g13, .ref g14, .ref g15, .ref g16, .ref g17, .ref g18, .ref g19, .int 0, .int 0, .ref g22, .int 0, .ref g24, .int 0, .int 0, .int (-1), .ref g28, .ref g29, .int 0, .int 0]))]) [0] rfl
          have hDc := hD.sub (ws' := [(mo, .inr (9, [.int 0, .int 0, .ref g2, .ref g3, .ref g4, .ref g5, .ref g6, .ref g7, .ref g8, .ref g9, .ref g10, .ref g11, .ref g12, .ref g13, .ref g14, .ref g15, .ref g16, .ref g17, .ref g18, .ref g19, .int 0, .int 0, .ref g22, .int 0, .ref g24, .int 0, .int 0, .int (-1), .ref g28, .ref g29, .int 0, .int 0]))]) [0] (by decide) rfl
          have hFc := va_free (wc := [(mo, .inr (9, [.int 0, .int 0, .ref g2, .ref g3, .ref g4, .ref g5, .ref g6, .ref g7, .ref g8, .ref g9, .ref g10, .ref g11, .ref g12, .ref g13, .ref g14, .ref g15, .ref g16, .ref g17, .ref g18, .ref g19, .int 0, .int 0, .ref g22, .int 0, .ref g24, .int 0, .int 0, .int (-1), .ref g28, .ref g29, .int 0, .int 0]))]) hD hS hA [0] rfl
          refine va_calli (vx_runVW (As := [.int (xs (Int32.toNatClampNeg 1)), .int 1, .int 1]) (rest := []) ⟨hx, hb, hml, hown, ht⟩ (k9p_level l D C s.heap.size H.size mo g2 g3 g4 g5 g6 g7 g8 g9 g10 g11 g12 g13 g14 g15 g16 g17 g18 g19 g22 g24 g28 g29 ((xs (Int32.toNatClampNeg 1))) 1 1) (vx_cwVW 3 ht (xg_V m_647 m_648 m_649 m_391 m_241) rfl rfl rfl (by decide +kernel) ⟨Nat.le_of_ble_eq_true rfl, Nat.le_of_ble_eq_true rfl⟩) ⟨xPc_bl, va_recv hK hPc (ci := 9) (q0 := 0) rfl rfl, xPc_at hPc hK hDc hE hS hAb⟩ rfl rfl hl.1 rfl (lv_room (Nat.le_of_ble_eq_true rfl)) dL_law_1540 ⟨(by decide), (by decide)⟩) hS (fun q _ h => hFc q h) hFc (fun r_89 u_90 t H1 locs ht1 hvm hw hB hz1 hk1 hS => ?_)
          obtain ⟨hP1, hD1⟩ := hB
          rw [ht1] at hP1
          try dsimp only at hw
          obtain ⟨hP, hD⟩ := va_join (wr := [(ou, .inl (C 2, 1, .inr (.inl (u_72))))]) (w1 := [(mo, .inr (9, [.int (u_90.2 0 0), .int (u_90.2 1 0), .ref g2, .ref g3, .ref g4, .ref g5, .ref g6, .ref g7, .ref g8, .ref g9, .ref g10, .ref g11, .ref g12, .ref g13, .ref g14, .ref g15, .ref g16, .ref g17, .ref g18, .ref g19, .int (u_90.2 2 0), .int (u_90.2 3 0), .ref g22, .int (u_90.2 4 0), .ref g24, .int (u_90.2 5 0), .int (u_90.2 6 0), .int (u_90.2 7 0), .ref g28, .ref g29, .int (u_90.2 8 0), .int (u_90.2 9 0)]))]) hP hD [0] [1] rfl rfl (by decide) (by decide) hk1 hFc hP1 hD1
          generalize H1 = H at hP hS ⊢
          have hP : va_P D vwCl [(ou, .inl (C 2, 1, .inr (.inl (u_72)))), (mo, .inr (9, [.int (u_90.2 0 0), .int (u_90.2 1 0), .ref g2, .ref g3, .ref g4, .ref g5, .ref g6, .ref g7, .ref g8, .ref g9, .ref g10, .ref g11, .ref g12, .ref g13, .ref g14, .ref g15, .ref g16, .ref g17, .ref g18, .ref g19, .int (u_90.2 2 0), .int (u_90.2 3 0), .ref g22, .int (u_90.2 4 0), .ref g24, .int (u_90.2 5 0), .int (u_90.2 6 0), .int (u_90.2 7 0), .ref g28, .ref g29, .int (u_90.2 8 0), .int (u_90.2 9 0)]))] H := hP
          have hD : va_D A [(ou, .inl (C 2, 1, .inr (.inl (u_72)))), (mo, .inr (9, [.int (u_90.2 0 0), .int (u_90.2 1 0), .ref g2, .ref g3, .ref g4, .ref g5, .ref g6, .ref g7, .ref g8, .ref g9, .ref g10, .ref g11, .ref g12, .ref g13, .ref g14, .ref g15, .ref g16, .ref g17, .ref g18, .ref g19, .int (u_90.2 2 0), .int (u_90.2 3 0), .ref g22, .int (u_90.2 4 0), .ref g24, .int (u_90.2 5 0), .int (u_90.2 6 0), .int (u_90.2 7 0), .ref g28, .ref g29, .int (u_90.2 8 0), .int (u_90.2 9 0)]))] := hD
          have hq_1540 := hw
          refine W.widen (k := 258) (n := 111962) (by decide) (by decide) ?_
          refine lv_istore (lv' := [(6, .int r_89), (5, .int 1), (4, .int 0), (3, .ref ou), (2, .ref mo), (1, .ref h0), (0, .ref b)]) hx hb dL_law_1543 hl (by decide) rfl (fun ls hl => ?_)
          refine lv_aload_n hx hb dL_law_1545 rfl (lv_at hl 4 rfl) ?_
          have hPc := hP.sub (ws' := [(mo, .inr (9, [.int (u_90.2 0 0), .int (u_90.2 1 0), .ref g2, .ref g3, .ref g4, .ref g5, .ref g6, .ref g7, .ref g8, .ref g9, .ref g10, .ref g11, .ref g12, .ref g13, .ref g14, .ref g15, .ref g16, .ref g17, .ref g18, .ref g19, .int (u_90.2 2 0), .int (u_90.2 3 0), .ref g22, .int (u_90.2 4 0), .ref g24, .int (u_90.2 5 0), .int (u_90.2 6 0), .int (u_90.2 7 0), .ref g28, .ref g29, .int (u_90.2 8 0), .int (u_90.2 9 0)]))]) [1] rfl
          have hDc := hD.sub (ws' := [(mo, .inr (9, [.int (u_90.2 0 0), .int (u_90.2 1 0), .ref g2, .ref g3, .ref g4, .ref g5, .ref g6, .ref g7, .ref g8, .ref g9, .ref g10, .ref g11, .ref g12, .ref g13, .ref g14, .ref g15, .ref g16, .ref g17, .ref g18, .ref g19, .int (u_90.2 2 0), .int (u_90.2 3 0), .ref g22, .int (u_90.2 4 0), .ref g24, .int (u_90.2 5 0), .int (u_90.2 6 0), .int (u_90.2 7 0), .ref g28, .ref g29, .int (u_90.2 8 0), .int (u_90.2 9 0)]))]) [1] (by decide) rfl
          have hFc := va_free (wc := [(mo, .inr (9, [.int (u_90.2 0 0), .int (u_90.2 1 0), .ref g2, .ref g3, .ref g4, .ref g5, .ref g6, .ref g7, .ref g8, .ref g9, .ref g10, .ref g11, .ref g12, .ref g13, .ref g14, .ref g15, .ref g16, .ref g17, .ref g18, .ref g19, .int (u_90.2 2 0), .int (u_90.2 3 0), .ref g22, .int (u_90.2 4 0), .ref g24, .int (u_90.2 5 0), .int (u_90.2 6 0), .int (u_90.2 7 0), .ref g28, .ref g29, .int (u_90.2 8 0), .int (u_90.2 9 0)]))]) hD hS hA [1] rfl
          refine va_calli (va_runV (As := []) (rest := []) ⟨hx, hb, hml, hown, ht⟩ (k9_thrown l D C s.heap.size H.size mo g2 g3 g4 g5 g6 g7 g8 g9 g10 g11 g12 g13 g14 g15 g16 g17 g18 g19 g22 g24 g28 g29 (u_90.2 0 0) (u_90.2 1 0) (u_90.2 2 0) (u_90.2 3 0) (u_90.2 4 0) (u_90.2 5 0) (u_90.2 6 0) (u_90.2 7 0) (u_90.2 8 0) (u_90.2 9 0)) (cwV 0 ht (xg_V m_562 m_563 m_564 m_391 m_221) rfl rfl rfl (by decide +kernel) ⟨Nat.le_of_ble_eq_true rfl, Nat.le_of_ble_eq_true rfl⟩) ⟨xPc_bl, va_recv hK hPc (ci := 9) (q0 := 0) rfl rfl, xPc_at hPc hK hDc hE hS hAb⟩ rfl rfl hl.1 rfl (lv_room (Nat.le_of_ble_eq_true rfl)) dL_law_1546 ⟨(by decide), (by decide)⟩) hS (fun q _ h => hFc q h) hFc (fun r_91 u_92 t H1 locs ht1 hvm hw hB hz1 hk1 hS => ?_)
          obtain ⟨hP1, hD1⟩ := hB
          rw [ht1] at hP1
          try dsimp only at hw
          obtain ⟨hP, hD⟩ := va_join (wr := [(ou, .inl (C 2, 1, .inr (.inl (u_72))))]) (w1 := [(mo, .inr (9, [.int (u_90.2 0 0), .int (u_90.2 1 0), .ref g2, .ref g3, .ref g4, .ref g5, .ref g6, .ref g7, .ref g8, .ref g9, .ref g10, .ref g11, .ref g12, .ref g13, .ref g14, .ref g15, .ref g16, .ref g17, .ref g18, .ref g19, .int (u_90.2 2 0), .int (u_90.2 3 0), .ref g22, .int (u_90.2 4 0), .ref g24, .int (u_90.2 5 0), .int (u_90.2 6 0), .int (u_90.2 7 0), .ref g28, .ref g29, .int (u_90.2 8 0), .int (u_90.2 9 0)]))]) hP hD [1] [0] rfl rfl (by decide) (by decide) hk1 hFc hP1 hD1
          generalize H1 = H at hP hS ⊢
          have hP : va_P D vwCl [(ou, .inl (C 2, 1, .inr (.inl (u_72)))), (mo, .inr (9, [.int (u_90.2 0 0), .int (u_90.2 1 0), .ref g2, .ref g3, .ref g4, .ref g5, .ref g6, .ref g7, .ref g8, .ref g9, .ref g10, .ref g11, .ref g12, .ref g13, .ref g14, .ref g15, .ref g16, .ref g17, .ref g18, .ref g19, .int (u_90.2 2 0), .int (u_90.2 3 0), .ref g22, .int (u_90.2 4 0), .ref g24, .int (u_90.2 5 0), .int (u_90.2 6 0), .int (u_90.2 7 0), .ref g28, .ref g29, .int (u_90.2 8 0), .int (u_90.2 9 0)]))] H := hP
          have hD : va_D A [(ou, .inl (C 2, 1, .inr (.inl (u_72)))), (mo, .inr (9, [.int (u_90.2 0 0), .int (u_90.2 1 0), .ref g2, .ref g3, .ref g4, .ref g5, .ref g6, .ref g7, .ref g8, .ref g9, .ref g10, .ref g11, .ref g12, .ref g13, .ref g14, .ref g15, .ref g16, .ref g17, .ref g18, .ref g19, .int (u_90.2 2 0), .int (u_90.2 3 0), .ref g22, .int (u_90.2 4 0), .ref g24, .int (u_90.2 5 0), .int (u_90.2 6 0), .int (u_90.2 7 0), .ref g28, .ref g29, .int (u_90.2 8 0), .int (u_90.2 9 0)]))] := hD
          have hq_1546 := hw
          obtain rfl : r_91 = (1 : Int32) := hw.trans hq_1540
          refine lv_iload hx hb dL_law_1549 (lv_at hl 1 rfl) ?_
          refine lv_icmp_eq (tgt := 1556) hx hb dL_law_1551 (by decide) (fun c_1551 => ?_) (fun c_1551 => ?_)
          rotate_left
          · exact absurd c_1551 (by decide)
          refine lv_iload hx hb dL_law_1556 (lv_at hl 1 rfl) ?_
          refine lv_if_ne (tgt := 1580) hx hb dL_law_1558 (by decide) (fun c_1558 => ?_) (fun c_1558 => ?_)
          rotate_left
          · exact absurd c_1558 (by decide)
          refine lv_goto (tgt := 1732) hx hb dL_law_1580 (by decide) ?_
          exact lc_end ⟨hl0, hx, hb, hr, hml, hown, ht, hX, hbl, hlocks, hK, hE, hA, hAs, hbA⟩ (by decide) (by decide) hS (lv_sub hl [2, 6] rfl)
set_option maxHeartbeats 4000000 in
set_option maxRecDepth 100000 in
theorem lc_assign {p : Program} {l : Launch} {e : Env} {s : State} {m : MethodId} {below : List Frame} {meth : Method} {c : Code} {b : Nat} {xs : Nat → Int32} {D : va_G} {C : Nat → ClassId} {A : Nat → Prop} {h0 s0 de kl tl cu hk ca kx ky tx ty a0 a1 a2 a3 a4 a5 a6 a7 a8 a9 a10 a11 ou mo g2 g3 g4 g5 g6 g7 g8 g9 g10 g11 g12 g13 g14 g15 g16 g17 g18 g19 g22 g24 g28 g29 : Nat} {fo : Nat → Int64} (h : lAt p l s m meth c b 6 xs D C A) {H : Heap} {locs : List Loc} {ls : Array Slot} (hP : va_P D vwCl [(h0, .inr (5, [.ref s0, .ref de, .ref kl, .ref tl, .ref cu, .ref hk, .ref ca, .int 0, .int 0, .int (-1), .int 0, .int 0])), (kl, .inr (2, [.ref kx, .ref ky, .int 0])), (tl, .inr (4, [.ref tx, .ref ty, .int 1])), (s0, .inr (3, [.ref a0, .ref a1, .ref a2, .ref a3, .ref a4, .ref a5, .ref a6, .int 0, .ref a7, .ref a8, .ref a9, .ref a10, .ref a11, .int 0])), (ou, .inl (C 2, 1, .inr (.inl fo))), (mo, .inr (9, [.int 0, .int 0, .ref g2, .ref g3, .ref g4, .ref g5, .ref g6, .ref g7, .ref g8, .ref g9, .ref g10, .ref g11, .ref g12, .ref g13, .ref g14, .ref g15, .ref g16, .ref g17, .ref g18, .ref g19, .int 0, .int 0, .ref g22, .int 0, .ref g24, .int 0, .int 0, .int (-1), .ref g28, .ref g29, .int 0, .int 0]))] H) (hD : va_D A [(h0, .inr (5, [.ref s0, .ref de, .ref kl, .ref tl, .ref cu, .ref hk, .ref ca, .int 0, .int 0, .int (-1), .int 0, .int 0])), (kl, .inr (2, [.ref kx, .ref ky, .int 0])), (tl, .inr (4, [.ref tx, .ref ty, .int 1])), (s0, .inr (3, [.ref a0, .ref a1, .ref a2, .ref a3, .ref a4, .ref a5, .ref a6, .int 0, .ref a7, .ref a8, .ref a9, .ref a10, .ref a11, .int 0])), (ou, .inl (C 2, 1, .inr (.inl fo))), (mo, .inr (9, [.int 0, .int 0, .ref g2, .ref g3, .ref g4, .ref g5, .ref g6, .ref g7, .ref g8, .ref g9, .ref g10, .ref g11, .ref g12, .ref g13, .ref g14, .ref g15, .ref g16, .ref g17, .ref g18, .ref g19, .int 0, .int 0, .ref g22, .int 0, .ref g24, .int 0, .int 0, .int (-1), .ref g28, .ref g29, .int 0, .int 0]))]) (hS : va_S A s.heap H locs) (hl : lv_has ls 7 [(4, .int 0), (3, .ref ou), (2, .ref mo), (1, .ref h0), (0, .ref b)]) : W p l e room_1 s m #[Value.ref b] below meth c H locs 254 111937 (lw_Z below #[Value.ref b] s) (F0 m 1583 ls []) := by
  obtain ⟨hl0, hx, hb, hr, hml, hown, ht, hX, hbl, hlocks, hK, hE, hA, hAs, hbA⟩ := h
  have hAb := hAs
  refine lv_aload_n hx hb dL_law_1583 rfl (lv_at hl 3 rfl) ?_
  refine lv_aload_n hx hb dL_law_1584 rfl (lv_at hl 4 rfl) ?_
  refine lv_iload hx hb dL_law_1585 (lv_at hl 0 rfl) ?_
  refine lv_iconst (v := 1) hx hb dL_law_1587 (by decide) ?_
  refine lv_iadd hx hb dL_law_1588 ?_
  refine lv_topi (fun x_1 ex_1 => ?_)
  obtain rfl : x_1 = (1 : Int32) := ex_1.trans (by decide)
  refine va_sld hx hb hX hbl hbA hS (by unfold vp_in; decide) dL_law_1589 ?_
  refine lv_aload_n hx hb dL_law_1590 rfl (lv_at hl 4 rfl) ?_
  refine lv_iload hx hb dL_law_1591 (lv_at hl 0 rfl) ?_
  refine lv_iconst (v := 2) hx hb dL_law_1593 (by decide) ?_
  refine lv_iadd hx hb dL_law_1594 ?_
  refine lv_topi (fun x_2 ex_2 => ?_)
  obtain rfl : x_2 = (2 : Int32) := ex_2.trans (by decide)
  refine va_sld hx hb hX hbl hbA hS (by unfold vp_in; decide) dL_law_1595 ?_
  refine lv_aload_n hx hb dL_law_1596 rfl (lv_at hl 1 rfl) ?_
  have hPc := hP.sub (ws' := [(h0, .inr (5, [.ref s0, .ref de, .ref kl, .ref tl, .ref cu, .ref hk, .ref ca, .int 0, .int 0, .int (-1), .int 0, .int 0])), (kl, .inr (2, [.ref kx, .ref ky, .int 0])), (tl, .inr (4, [.ref tx, .ref ty, .int 1])), (s0, .inr (3, [.ref a0, .ref a1, .ref a2, .ref a3, .ref a4, .ref a5, .ref a6, .int 0, .ref a7, .ref a8, .ref a9, .ref a10, .ref a11, .int 0])), (ou, .inl (C 2, 1, .inr (.inl fo)))]) [0, 1, 2, 3, 4] rfl
  have hDc := hD.sub (ws' := [(h0, .inr (5, [.ref s0, .ref de, .ref kl, .ref tl, .ref cu, .ref hk, .ref ca, .int 0, .int 0, .int (-1), .int 0, .int 0])), (kl, .inr (2, [.ref kx, .ref ky, .int 0])), (tl, .inr (4, [.ref tx, .ref ty, .int 1])), (s0, .inr (3, [.ref a0, .ref a1, .ref a2, .ref a3, .ref a4, .ref a5, .ref a6, .int 0, .ref a7, .ref a8, .ref a9, .ref a10, .ref a11, .int 0])), (ou, .inl (C 2, 1, .inr (.inl fo)))]) [0, 1, 2, 3, 4] (by decide) rfl
  have hFc := va_free (wc := [(h0, .inr (5, [.ref s0, .ref de, .ref kl, .ref tl, .ref cu, .ref hk, .ref ca, .int 0, .int 0, .int (-1), .int 0, .int 0])), (kl, .inr (2, [.ref kx, .ref ky, .int 0])), (tl, .inr (4, [.ref tx, .ref ty, .int 1])), (s0, .inr (3, [.ref a0, .ref a1, .ref a2, .ref a3, .ref a4, .ref a5, .ref a6, .int 0, .ref a7, .ref a8, .ref a9, .ref a10, .ref a11, .int 0])), (ou, .inl (C 2, 1, .inr (.inl fo)))]) hD hS hA [0, 1, 2, 3, 4] rfl
  refine va_calli (vx_runSW (As := [.ref h0, .int (xs (Int32.toNatClampNeg 1)), .int (xs (Int32.toNatClampNeg 2)), .ref ou]) (rest := []) ⟨hx, hb, hml, hown, ht⟩ (kL_assign l hl0 D C s.heap.size H.size h0 s0 de kl tl cu hk ca kx ky tx ty a0 a1 a2 a3 a4 a5 a6 a7 a8 a9 a10 a11 ((xs (Int32.toNatClampNeg 1))) ((xs (Int32.toNatClampNeg 2))) ou fo) (vx_cwSW 4 ht (xg_T m_650 m_651 m_558 m_487) rfl rfl rfl (by decide +kernel) ⟨Nat.le_of_ble_eq_true rfl, Nat.le_of_ble_eq_true rfl⟩) ⟨xPc_bl, xPc_at hPc hK hDc hE hS hAb⟩ rfl rfl hl.1 rfl (lv_room (Nat.le_of_ble_eq_true rfl)) dL_law_1597 ⟨(by decide), (by decide)⟩) hS (fun q _ h => hFc q h) hFc (fun r_3 u_4 t H1 locs ht1 hvm hw hB hz1 hk1 hS => ?_)
  obtain ⟨hP1, hD1⟩ := hB
  rw [ht1] at hP1
  try dsimp only at hw
  obtain ⟨hP, hD⟩ := va_join (wr := [(mo, .inr (9, [.int 0, .int 0, .ref g2, .ref g3, .ref g4, .ref g5, .ref g6, .ref g7, .ref g8, .ref g9, .ref g10, .ref g11, .ref g12, .ref g13, .ref g14, .ref g15, .ref g16, .ref g17, .ref g18, .ref g19, .int 0, .int 0, .ref g22, .int 0, .ref g24, .int 0, .int 0, .int (-1), .ref g28, .ref g29, .int 0, .int 0]))]) (w1 := [(ou, .inl (C 2, 1, .inr (.inl (u_4))))]) hP hD [0, 1, 2, 3, 4] [5] rfl rfl (by decide) (by decide) hk1 hFc hP1 hD1
  generalize H1 = H at hP hS ⊢
  have hP : va_P D vwCl [(mo, .inr (9, [.int 0, .int 0, .ref g2, .ref g3, .ref g4, .ref g5, .ref g6, .ref g7, .ref g8, .ref g9, .ref g10, .ref g11, .ref g12, .ref g13, .ref g14, .ref g15, .ref g16, .ref g17, .ref g18, .ref g19, .int 0, .int 0, .ref g22, .int 0, .ref g24, .int 0, .int 0, .int (-1), .ref g28, .ref g29, .int 0, .int 0])), (ou, .inl (C 2, 1, .inr (.inl (u_4))))] H := hP
  have hD : va_D A [(mo, .inr (9, [.int 0, .int 0, .ref g2, .ref g3, .ref g4, .ref g5, .ref g6, .ref g7, .ref g8, .ref g9, .ref g10, .ref g11, .ref g12, .ref g13, .ref g14, .ref g15, .ref g16, .ref g17, .ref g18, .ref g19, .int 0, .int 0, .ref g22, .int 0, .ref g24, .int 0, .int 0, .int (-1), .ref g28, .ref g29, .int 0, .int 0])), (ou, .inl (C 2, 1, .inr (.inl (u_4))))] := hD
  have hq_1597 := hw
  obtain rfl : r_3 = (1 : Int32) := hw
  refine W.widen (k := 257) (n := 111955) (by decide) (by decide) ?_
  refine lv_istore (lv' := [(5, .int 1), (4, .int 0), (3, .ref ou), (2, .ref mo), (1, .ref h0), (0, .ref b)]) hx hb dL_law_1600 hl (by decide) rfl (fun ls hl => ?_)
  refine lv_aload_n hx hb dL_law_1602 rfl (lv_at hl 3 rfl) ?_
  refine lv_aload_n hx hb dL_law_1603 rfl (lv_at hl 5 rfl) ?_
  refine lv_iload hx hb dL_law_1604 (lv_at hl 1 rfl) ?_
  refine lv_iconst (v := 1) hx hb dL_law_1606 (by decide) ?_
  refine lv_iadd hx hb dL_law_1607 ?_
  refine lv_topi (fun x_5 ex_5 => ?_)
  obtain rfl : x_5 = (1 : Int32) := ex_5.trans (by decide)
  refine va_sld hx hb hX hbl hbA hS (by unfold vp_in; decide) dL_law_1608 ?_
  refine lv_aload_n hx hb dL_law_1609 rfl (lv_at hl 5 rfl) ?_
  refine lv_iload hx hb dL_law_1610 (lv_at hl 1 rfl) ?_
  refine lv_iconst (v := 2) hx hb dL_law_1612 (by decide) ?_
  refine lv_iadd hx hb dL_law_1613 ?_
  refine lv_topi (fun x_6 ex_6 => ?_)
  obtain rfl : x_6 = (2 : Int32) := ex_6.trans (by decide)
  refine va_sld hx hb hX hbl hbA hS (by unfold vp_in; decide) dL_law_1614 ?_
  have hPc := hP.sub (ws' := [(mo, .inr (9, [.int 0, .int 0, .ref g2, .ref g3, .ref g4, .ref g5, .ref g6, .ref g7, .ref g8, .ref g9, .ref g10, .ref g11, .ref g12, .ref g13, .ref g14, .ref g15, .ref g16, .ref g17, .ref g18, .ref g19, .int 0, .int 0, .ref g22, .int 0, .ref g24, .int 0, .int 0, .int (-1), .ref g28, .ref g29, .int 0, .int 0]))]) [0] rfl
  have hDc := hD.sub (ws' := [(mo, .inr (9, [.int 0, .int 0, .ref g2, .ref g3, .ref g4, .ref g5, .ref g6, .ref g7, .ref g8, .ref g9, .ref g10, .ref g11, .ref g12, .ref g13, .ref g14, .ref g15, .ref g16, .ref g17, .ref g18, .ref g19, .int 0, .int 0, .ref g22, .int 0, .ref g24, .int 0, .int 0, .int (-1), .ref g28, .ref g29, .int 0, .int 0]))]) [0] (by decide) rfl
  have hFc := va_free (wc := [(mo, .inr (9, [.int 0, .int 0, .ref g2, .ref g3, .ref g4, .ref g5, .ref g6, .ref g7, .ref g8, .ref g9, .ref g10, .ref g11, .ref g12, .ref g13, .ref g14, .ref g15, .ref g16, .ref g17, .ref g18, .ref g19, .int 0, .int 0, .ref g22, .int 0, .ref g24, .int 0, .int 0, .int (-1), .ref g28, .ref g29, .int 0, .int 0]))]) hD hS hA [0] rfl
  refine va_calli (vx_runVW (As := [.int (xs (Int32.toNatClampNeg 1)), .int (xs (Int32.toNatClampNeg 2))]) (rest := []) ⟨hx, hb, hml, hown, ht⟩ (k9p_assign l D C s.heap.size H.size mo g2 g3 g4 g5 g6 g7 g8 g9 g10 g11 g12 g13 g14 g15 g16 g17 g18 g19 g22 g24 g28 g29 ((xs (Int32.toNatClampNeg 1))) ((xs (Int32.toNatClampNeg 2)))) (vx_cwVW 2 ht (xg_V m_652 m_653 m_654 m_391 m_242) rfl rfl rfl (by decide +kernel) ⟨Nat.le_of_ble_eq_true rfl, Nat.le_of_ble_eq_true rfl⟩) ⟨xPc_bl, va_recv hK hPc (ci := 9) (q0 := 0) rfl rfl, xPc_at hPc hK hDc hE hS hAb⟩ rfl rfl hl.1 rfl (lv_room (Nat.le_of_ble_eq_true rfl)) dL_law_1615 ⟨(by decide), (by decide)⟩) hS (fun q _ h => hFc q h) hFc (fun r_7 u_8 t H1 locs ht1 hvm hw hB hz1 hk1 hS => ?_)
  obtain ⟨hP1, hD1⟩ := hB
  rw [ht1] at hP1
  try dsimp only at hw
  obtain ⟨hP, hD⟩ := va_join (wr := [(ou, .inl (C 2, 1, .inr (.inl (u_4))))]) (w1 := [(mo, .inr (9, [.int (u_8.2 0 0), .int (u_8.2 1 0), .ref g2, .ref g3, .ref g4, .ref g5, .ref g6, .ref g7, .ref g8, .ref g9, .ref g10, .ref g11, .ref g12, .ref g13, .ref g14, .ref g15, .ref g16, .ref g17, .ref g18, .ref g19, .int (u_8.2 2 0), .int (u_8.2 3 0), .ref g22, .int (u_8.2 4 0), .ref g24, .int (u_8.2 5 0), .int (u_8.2 6 0), .int (u_8.2 7 0), .ref g28, .ref g29, .int (u_8.2 8 0), .int (u_8.2 9 0)]))]) hP hD [0] [1] rfl rfl (by decide) (by decide) hk1 hFc hP1 hD1
  generalize H1 = H at hP hS ⊢
  have hP : va_P D vwCl [(ou, .inl (C 2, 1, .inr (.inl (u_4)))), (mo, .inr (9, [.int (u_8.2 0 0), .int (u_8.2 1 0), .ref g2, .ref g3, .ref g4, .ref g5, .ref g6, .ref g7, .ref g8, .ref g9, .ref g10, .ref g11, .ref g12, .ref g13, .ref g14, .ref g15, .ref g16, .ref g17, .ref g18, .ref g19, .int (u_8.2 2 0), .int (u_8.2 3 0), .ref g22, .int (u_8.2 4 0), .ref g24, .int (u_8.2 5 0), .int (u_8.2 6 0), .int (u_8.2 7 0), .ref g28, .ref g29, .int (u_8.2 8 0), .int (u_8.2 9 0)]))] H := hP
  have hD : va_D A [(ou, .inl (C 2, 1, .inr (.inl (u_4)))), (mo, .inr (9, [.int (u_8.2 0 0), .int (u_8.2 1 0), .ref g2, .ref g3, .ref g4, .ref g5, .ref g6, .ref g7, .ref g8, .ref g9, .ref g10, .ref g11, .ref g12, .ref g13, .ref g14, .ref g15, .ref g16, .ref g17, .ref g18, .ref g19, .int (u_8.2 2 0), .int (u_8.2 3 0), .ref g22, .int (u_8.2 4 0), .ref g24, .int (u_8.2 5 0), .int (u_8.2 6 0), .int (u_8.2 7 0), .ref g28, .ref g29, .int (u_8.2 8 0), .int (u_8.2 9 0)]))] := hD
  have hq_1615 := hw
  refine W.widen (k := 258) (n := 111962) (by decide) (by decide) ?_
  refine lv_istore (lv' := [(6, .int r_7), (5, .int 1), (4, .int 0), (3, .ref ou), (2, .ref mo), (1, .ref h0), (0, .ref b)]) hx hb dL_law_1618 hl (by decide) rfl (fun ls hl => ?_)
  refine lv_aload_n hx hb dL_law_1620 rfl (lv_at hl 4 rfl) ?_
  have hPc := hP.sub (ws' := [(mo, .inr (9, [.int (u_8.2 0 0), .int (u_8.2 1 0), .ref g2, .ref g3, .ref g4, .ref g5, .ref g6, .ref g7, .ref g8, .ref g9, .ref g10, .ref g11, .ref g12, .ref g13, .ref g14, .ref g15, .ref g16, .ref g17, .ref g18, .ref g19, .int (u_8.2 2 0), .int (u_8.2 3 0), .ref g22, .int (u_8.2 4 0), .ref g24, .int (u_8.2 5 0), .int (u_8.2 6 0), .int (u_8.2 7 0), .ref g28, .ref g29, .int (u_8.2 8 0), .int (u_8.2 9 0)]))]) [1] rfl
  have hDc := hD.sub (ws' := [(mo, .inr (9, [.int (u_8.2 0 0), .int (u_8.2 1 0), .ref g2, .ref g3, .ref g4, .ref g5, .ref g6, .ref g7, .ref g8, .ref g9, .ref g10, .ref g11, .ref g12, .ref g13, .ref g14, .ref g15, .ref g16, .ref g17, .ref g18, .ref g19, .int (u_8.2 2 0), .int (u_8.2 3 0), .ref g22, .int (u_8.2 4 0), .ref g24, .int (u_8.2 5 0), .int (u_8.2 6 0), .int (u_8.2 7 0), .ref g28, .ref g29, .int (u_8.2 8 0), .int (u_8.2 9 0)]))]) [1] (by decide) rfl
  have hFc := va_free (wc := [(mo, .inr (9, [.int (u_8.2 0 0), .int (u_8.2 1 0), .ref g2, .ref g3, .ref g4, .ref g5, .ref g6, .ref g7, .ref g8, .ref g9, .ref g10, .ref g11, .ref g12, .ref g13, .ref g14, .ref g15, .ref g16, .ref g17, .ref g18, .ref g19, .int (u_8.2 2 0), .int (u_8.2 3 0), .ref g22, .int (u_8.2 4 0), .ref g24, .int (u_8.2 5 0), .int (u_8.2 6 0), .int (u_8.2 7 0), .ref g28, .ref g29, .int (u_8.2 8 0), .int (u_8.2 9 0)]))]) hD hS hA [1] rfl
  refine va_calli (va_runV (As := []) (rest := []) ⟨hx, hb, hml, hown, ht⟩ (k9_thrown l D C s.heap.size H.size mo g2 g3 g4 g5 g6 g7 g8 g9 g10 g11 g12 g13 g14 g15 g16 g17 g18 g19 g22 g24 g28 g29 (u_8.2 0 0) (u_8.2 1 0) (u_8.2 2 0) (u_8.2 3 0) (u_8.2 4 0) (u_8.2 5 0) (u_8.2 6 0) (u_8.2 7 0) (u_8.2 8 0) (u_8.2 9 0)) (cwV 0 ht (xg_V m_562 m_563 m_564 m_391 m_221) rfl rfl rfl (by decide +kernel) ⟨Nat.le_of_ble_eq_true rfl, Nat.le_of_ble_eq_true rfl⟩) ⟨xPc_bl, va_recv hK hPc (ci := 9) (q0 := 0) rfl rfl, xPc_at hPc hK hDc hE hS hAb⟩ rfl rfl hl.1 rfl (lv_room (Nat.le_of_ble_eq_true rfl)) dL_law_1621 ⟨(by decide), (by decide)⟩) hS (fun q _ h => hFc q h) hFc (fun r_9 u_10 t H1 locs ht1 hvm hw hB hz1 hk1 hS => ?_)
  obtain ⟨hP1, hD1⟩ := hB
  rw [ht1] at hP1
  try dsimp only at hw
  obtain ⟨hP, hD⟩ := va_join (wr := [(ou, .inl (C 2, 1, .inr (.inl (u_4))))]) (w1 := [(mo, .inr (9, [.int (u_8.2 0 0), .int (u_8.2 1 0), .ref g2, .ref g3, .ref g4, .ref g5, .ref g6, .ref g7, .ref g8, .ref g9, .ref g10, .ref g11, .ref g12, .ref g13, .ref g14, .ref g15, .ref g16, .ref g17, .ref g18, .ref g19, .int (u_8.2 2 0), .int (u_8.2 3 0), .ref g22, .int (u_8.2 4 0), .ref g24, .int (u_8.2 5 0), .int (u_8.2 6 0), .int (u_8.2 7 0), .ref g28, .ref g29, .int (u_8.2 8 0), .int (u_8.2 9 0)]))]) hP hD [1] [0] rfl rfl (by decide) (by decide) hk1 hFc hP1 hD1
  generalize H1 = H at hP hS ⊢
  have hP : va_P D vwCl [(ou, .inl (C 2, 1, .inr (.inl (u_4)))), (mo, .inr (9, [.int (u_8.2 0 0), .int (u_8.2 1 0), .ref g2, .ref g3, .ref g4, .ref g5, .ref g6, .ref g7, .ref g8, .ref g9, .ref g10, .ref g11, .ref g12, .ref g13, .ref g14, .ref g15, .ref g16, .ref g17, .ref g18, .ref g19, .int (u_8.2 2 0), .int (u_8.2 3 0), .ref g22, .int (u_8.2 4 0), .ref g24, .int (u_8.2 5 0), .int (u_8.2 6 0), .int (u_8.2 7 0), .ref g28, .ref g29, .int (u_8.2 8 0), .int (u_8.2 9 0)]))] H := hP
  have hD : va_D A [(ou, .inl (C 2, 1, .inr (.inl (u_4)))), (mo, .inr (9, [.int (u_8.2 0 0), .int (u_8.2 1 0), .ref g2, .ref g3, .ref g4, .ref g5, .ref g6, .ref g7, .ref g8, .ref g9, .ref g10, .ref g11, .ref g12, .ref g13, .ref g14, .ref g15, .ref g16, .ref g17, .ref g18, .ref g19, .int (u_8.2 2 0), .int (u_8.2 3 0), .ref g22, .int (u_8.2 4 0), .ref g24, .int (u_8.2 5 0), .int (u_8.2 6 0), .int (u_8.2 7 0), .ref g28, .ref g29, .int (u_8.2 8 0), .int (u_8.2 9 0)]))] := hD
  have hq_1621 := hw
  obtain rfl : r_9 = (1 : Int32) := hw.trans hq_1615
  refine lv_iload hx hb dL_law_1624 (lv_at hl 1 rfl) ?_
  refine lv_icmp_eq (tgt := 1631) hx hb dL_law_1626 (by decide) (fun c_1626 => ?_) (fun c_1626 => ?_)
  rotate_left
  · exact absurd c_1626 (by decide)
  refine lv_iload hx hb dL_law_1631 (lv_at hl 1 rfl) ?_
  refine lv_if_ne (tgt := 1648) hx hb dL_law_1633 (by decide) (fun c_1633 => ?_) (fun c_1633 => ?_)
  rotate_left
  · exact absurd c_1633 (by decide)
  refine lv_goto (tgt := 1732) hx hb dL_law_1648 (by decide) ?_
  exact lc_end ⟨hl0, hx, hb, hr, hml, hown, ht, hX, hbl, hlocks, hK, hE, hA, hAs, hbA⟩ (by decide) (by decide) hS (lv_sub hl [2, 6] rfl)
set_option maxHeartbeats 4000000 in
set_option maxRecDepth 100000 in
theorem lc_call {p : Program} {l : Launch} {e : Env} {s : State} {m : MethodId} {below : List Frame} {meth : Method} {c : Code} {b : Nat} {xs : Nat → Int32} {D : va_G} {C : Nat → ClassId} {A : Nat → Prop} {h0 s0 de kl tl cu hk ca kx ky tx ty a0 a1 a2 a3 a4 a5 a6 a7 a8 a9 a10 a11 ou mo g2 g3 g4 g5 g6 g7 g8 g9 g10 g11 g12 g13 g14 g15 g16 g17 g18 g19 g22 g24 g28 g29 : Nat} (h : lAt p l s m meth c b 6 xs D C A) {H : Heap} {locs : List Loc} {ls : Array Slot} (hP : va_P D vwCl [(h0, .inr (5, [.ref s0, .ref de, .ref kl, .ref tl, .ref cu, .ref hk, .ref ca, .int 0, .int 0, .int (-1), .int 0, .int 0])), (kl, .inr (2, [.ref kx, .ref ky, .int 0])), (tl, .inr (4, [.ref tx, .ref ty, .int 1])), (s0, .inr (3, [.ref a0, .ref a1, .ref a2, .ref a3, .ref a4, .ref a5, .ref a6, .int 0, .ref a7, .ref a8, .ref a9, .ref a10, .ref a11, .int 0])), (mo, .inr (9, [.int 0, .int 0, .ref g2, .ref g3, .ref g4, .ref g5, .ref g6, .ref g7, .ref g8, .ref g9, .ref g10, .ref g11, .ref g12, .ref g13, .ref g14, .ref g15, .ref g16, .ref g17, .ref g18, .ref g19, .int 0, .int 0, .ref g22, .int 0, .ref g24, .int 0, .int 0, .int (-1), .ref g28, .ref g29, .int 0, .int 0]))] H) (hD : va_D A [(h0, .inr (5, [.ref s0, .ref de, .ref kl, .ref tl, .ref cu, .ref hk, .ref ca, .int 0, .int 0, .int (-1), .int 0, .int 0])), (kl, .inr (2, [.ref kx, .ref ky, .int 0])), (tl, .inr (4, [.ref tx, .ref ty, .int 1])), (s0, .inr (3, [.ref a0, .ref a1, .ref a2, .ref a3, .ref a4, .ref a5, .ref a6, .int 0, .ref a7, .ref a8, .ref a9, .ref a10, .ref a11, .int 0])), (mo, .inr (9, [.int 0, .int 0, .ref g2, .ref g3, .ref g4, .ref g5, .ref g6, .ref g7, .ref g8, .ref g9, .ref g10, .ref g11, .ref g12, .ref g13, .ref g14, .ref g15, .ref g16, .ref g17, .ref g18, .ref g19, .int 0, .int 0, .ref g22, .int 0, .ref g24, .int 0, .int 0, .int (-1), .ref g28, .ref g29, .int 0, .int 0]))]) (hS : va_S A s.heap H locs) (hl : lv_has ls 7 [(4, .int 0), (3, .ref ou), (2, .ref mo), (1, .ref h0), (0, .ref b)]) : W p l e room_1 s m #[Value.ref b] below meth c H locs 254 111937 (lw_Z below #[Value.ref b] s) (F0 m 1651 ls []) := by
  obtain ⟨hl0, hx, hb, hr, hml, hown, ht, hX, hbl, hlocks, hK, hE, hA, hAs, hbA⟩ := h
  have hAb := hAs
  refine lv_aload_n hx hb dL_law_1651 rfl (lv_at hl 3 rfl) ?_
  refine lv_aload_n hx hb dL_law_1652 rfl (lv_at hl 4 rfl) ?_
  refine lv_iload hx hb dL_law_1653 (lv_at hl 0 rfl) ?_
  refine lv_iconst (v := 1) hx hb dL_law_1655 (by decide) ?_
  refine lv_iadd hx hb dL_law_1656 ?_
  refine lv_topi (fun x_1 ex_1 => ?_)
  obtain rfl : x_1 = (1 : Int32) := ex_1.trans (by decide)
  refine va_sld hx hb hX hbl hbA hS (by unfold vp_in; decide) dL_law_1657 ?_
  have hPc := hP.sub (ws' := [(h0, .inr (5, [.ref s0, .ref de, .ref kl, .ref tl, .ref cu, .ref hk, .ref ca, .int 0, .int 0, .int (-1), .int 0, .int 0])), (kl, .inr (2, [.ref kx, .ref ky, .int 0])), (tl, .inr (4, [.ref tx, .ref ty, .int 1])), (s0, .inr (3, [.ref a0, .ref a1, .ref a2, .ref a3, .ref a4, .ref a5, .ref a6, .int 0, .ref a7, .ref a8, .ref a9, .ref a10, .ref a11, .int 0]))]) [0, 1, 2, 3] rfl
  have hDc := hD.sub (ws' := [(h0, .inr (5, [.ref s0, .ref de, .ref kl, .ref tl, .ref cu, .ref hk, .ref ca, .int 0, .int 0, .int (-1), .int 0, .int 0])), (kl, .inr (2, [.ref kx, .ref ky, .int 0])), (tl, .inr (4, [.ref tx, .ref ty, .int 1])), (s0, .inr (3, [.ref a0, .ref a1, .ref a2, .ref a3, .ref a4, .ref a5, .ref a6, .int 0, .ref a7, .ref a8, .ref a9, .ref a10, .ref a11, .int 0]))]) [0, 1, 2, 3] (by decide) rfl
  have hFc := va_free (wc := [(h0, .inr (5, [.ref s0, .ref de, .ref kl, .ref tl, .ref cu, .ref hk, .ref ca, .int 0, .int 0, .int (-1), .int 0, .int 0])), (kl, .inr (2, [.ref kx, .ref ky, .int 0])), (tl, .inr (4, [.ref tx, .ref ty, .int 1])), (s0, .inr (3, [.ref a0, .ref a1, .ref a2, .ref a3, .ref a4, .ref a5, .ref a6, .int 0, .ref a7, .ref a8, .ref a9, .ref a10, .ref a11, .int 0]))]) hD hS hA [0, 1, 2, 3] rfl
  refine va_calli (va_runV (As := [.int (xs (Int32.toNatClampNeg 1))]) (rest := []) ⟨hx, hb, hml, hown, ht⟩ (k5_call l D C s.heap.size H.size h0 s0 de kl tl cu hk ca kx ky tx ty a0 a1 a2 a3 a4 a5 a6 a7 a8 a9 a10 a11 ((xs (Int32.toNatClampNeg 1)))) (cwV 1 ht (xg_V m_655 m_656 m_657 m_281 m_199) rfl rfl rfl (by decide +kernel) ⟨Nat.le_of_ble_eq_true rfl, Nat.le_of_ble_eq_true rfl⟩) ⟨xPc_bl, va_recv hK hPc (ci := 5) (q0 := 0) rfl rfl, xPc_at hPc hK hDc hE hS hAb⟩ rfl rfl hl.1 rfl (lv_room (Nat.le_of_ble_eq_true rfl)) dL_law_1658 ⟨(by decide), (by decide)⟩) hS (fun q _ h => hFc q h) hFc (fun r_2 u_3 t H1 locs ht1 hvm hw hB hz1 hk1 hS => ?_)
  obtain ⟨hP1, hD1⟩ := hB
  rw [ht1] at hP1
  try dsimp only at hw
  obtain ⟨hP, hD⟩ := va_join (wr := [(mo, .inr (9, [.int 0, .int 0, .ref g2, .ref g3, .ref g4, .ref g5, .ref g6, .ref g7, .ref g8, .ref g9, .ref g10, .ref g11, .ref g12, .ref g13, .ref g14, .ref g15, .ref g16, .ref g17, .ref g18, .ref g19, .int 0, .int 0, .ref g22, .int 0, .ref g24, .int 0, .int 0, .int (-1), .ref g28, .ref g29, .int 0, .int 0]))]) (w1 := []) hP hD [0, 1, 2, 3] [4] rfl rfl (by decide) (by decide) hk1 hFc hP1 hD1
  generalize H1 = H at hP hS ⊢
  have hP : va_P D vwCl [(mo, .inr (9, [.int 0, .int 0, .ref g2, .ref g3, .ref g4, .ref g5, .ref g6, .ref g7, .ref g8, .ref g9, .ref g10, .ref g11, .ref g12, .ref g13, .ref g14, .ref g15, .ref g16, .ref g17, .ref g18, .ref g19, .int 0, .int 0, .ref g22, .int 0, .ref g24, .int 0, .int 0, .int (-1), .ref g28, .ref g29, .int 0, .int 0]))] H := hP
  have hD : va_D A [(mo, .inr (9, [.int 0, .int 0, .ref g2, .ref g3, .ref g4, .ref g5, .ref g6, .ref g7, .ref g8, .ref g9, .ref g10, .ref g11, .ref g12, .ref g13, .ref g14, .ref g15, .ref g16, .ref g17, .ref g18, .ref g19, .int 0, .int 0, .ref g22, .int 0, .ref g24, .int 0, .int 0, .int (-1), .ref g28, .ref g29, .int 0, .int 0]))] := hD
  have hq_1658 := hw
  obtain rfl : r_2 = (-1 : Int32) := hw
  refine lv_aload_n hx hb dL_law_1661 rfl (lv_at hl 2 rfl) ?_
  refine lv_aload_n hx hb dL_law_1662 rfl (lv_at hl 4 rfl) ?_
  refine lv_iload hx hb dL_law_1663 (lv_at hl 0 rfl) ?_
  refine lv_iconst (v := 1) hx hb dL_law_1665 (by decide) ?_
  refine lv_iadd hx hb dL_law_1666 ?_
  refine lv_topi (fun x_4 ex_4 => ?_)
  obtain rfl : x_4 = (1 : Int32) := ex_4.trans (by decide)
  refine va_sld hx hb hX hbl hbA hS (by unfold vp_in; decide) dL_law_1667 ?_
  have hPc := hP.sub (ws' := [(mo, .inr (9, [.int 0, .int 0, .ref g2, .ref g3, .ref g4, .ref g5, .ref g6, .ref g7, .ref g8, .ref g9, .ref g10, .ref g11, .ref g12, .ref g13, .ref g14, .ref g15, .ref g16, .ref g17, .ref g18, .ref g19, .int 0, .int 0, .ref g22, .int 0, .ref g24, .int 0, .int 0, .int (-1), .ref g28, .ref g29, .int 0, .int 0]))]) [0] rfl
  have hDc := hD.sub (ws' := [(mo, .inr (9, [.int 0, .int 0, .ref g2, .ref g3, .ref g4, .ref g5, .ref g6, .ref g7, .ref g8, .ref g9, .ref g10, .ref g11, .ref g12, .ref g13, .ref g14, .ref g15, .ref g16, .ref g17, .ref g18, .ref g19, .int 0, .int 0, .ref g22, .int 0, .ref g24, .int 0, .int 0, .int (-1), .ref g28, .ref g29, .int 0, .int 0]))]) [0] (by decide) rfl
  have hFc := va_free (wc := [(mo, .inr (9, [.int 0, .int 0, .ref g2, .ref g3, .ref g4, .ref g5, .ref g6, .ref g7, .ref g8, .ref g9, .ref g10, .ref g11, .ref g12, .ref g13, .ref g14, .ref g15, .ref g16, .ref g17, .ref g18, .ref g19, .int 0, .int 0, .ref g22, .int 0, .ref g24, .int 0, .int 0, .int (-1), .ref g28, .ref g29, .int 0, .int 0]))]) hD hS hA [0] rfl
  refine va_calli (va_runV (As := [.int (xs (Int32.toNatClampNeg 1))]) (rest := [.int (-1)]) ⟨hx, hb, hml, hown, ht⟩ (k9p_call l D C s.heap.size H.size mo g2 g3 g4 g5 g6 g7 g8 g9 g10 g11 g12 g13 g14 g15 g16 g17 g18 g19 g22 g24 g28 g29 ((xs (Int32.toNatClampNeg 1)))) (cwV 1 ht (xg_V m_658 m_659 m_660 m_391 m_228) rfl rfl rfl (by decide +kernel) ⟨Nat.le_of_ble_eq_true rfl, Nat.le_of_ble_eq_true rfl⟩) ⟨xPc_bl, va_recv hK hPc (ci := 9) (q0 := 0) rfl rfl, xPc_at hPc hK hDc hE hS hAb⟩ rfl rfl hl.1 rfl (lv_room (Nat.le_of_ble_eq_true rfl)) dL_law_1668 ⟨(by decide), (by decide)⟩) hS (fun q _ h => hFc q h) hFc (fun r_5 u_6 t H1 locs ht1 hvm hw hB hz1 hk1 hS => ?_)
  obtain ⟨hP1, hD1⟩ := hB
  rw [ht1] at hP1
  try dsimp only at hw
  obtain ⟨hP, hD⟩ := va_join (wr := []) (w1 := []) hP hD [0] [] rfl rfl (by decide) (by decide) hk1 hFc hP1 hD1
  generalize H1 = H at hP hS ⊢
  have hP : va_P D vwCl [] H := hP
  have hD : va_D A [] := hD
  have hq_1668 := hw
  obtain rfl : r_5 = (-1 : Int32) := hw
  refine lv_icmp_eq (tgt := 1732) hx hb dL_law_1671 (by decide) (fun c_1671 => ?_) (fun c_1671 => ?_)
  rotate_left
  · exact absurd c_1671 (by decide)
  exact lc_end ⟨hl0, hx, hb, hr, hml, hown, ht, hX, hbl, hlocks, hK, hE, hA, hAs, hbA⟩ (by decide) (by decide) hS (lv_sub hl [0, 4] rfl)
set_option maxHeartbeats 4000000 in
set_option maxRecDepth 100000 in
theorem lc_count {p : Program} {l : Launch} {e : Env} {s : State} {m : MethodId} {below : List Frame} {meth : Method} {c : Code} {b : Nat} {xs : Nat → Int32} {D : va_G} {C : Nat → ClassId} {A : Nat → Prop} {h0 s0 de kl tl cu hk ca kx ky tx ty a0 a1 a2 a3 a4 a5 a6 a7 a8 a9 a10 a11 ou mo g2 g3 g4 g5 g6 g7 g8 g9 g10 g11 g12 g13 g14 g15 g16 g17 g18 g19 g22 g24 g28 g29 : Nat} {fo : Nat → Int64} (h : lAt p l s m meth c b 6 xs D C A) {H : Heap} {locs : List Loc} {ls : Array Slot} (hP : va_P D vwCl [(h0, .inr (5, [.ref s0, .ref de, .ref kl, .ref tl, .ref cu, .ref hk, .ref ca, .int 0, .int 0, .int (-1), .int 0, .int 0])), (kl, .inr (2, [.ref kx, .ref ky, .int 0])), (tl, .inr (4, [.ref tx, .ref ty, .int 1])), (s0, .inr (3, [.ref a0, .ref a1, .ref a2, .ref a3, .ref a4, .ref a5, .ref a6, .int 0, .ref a7, .ref a8, .ref a9, .ref a10, .ref a11, .int 0])), (ou, .inl (C 2, 1, .inr (.inl fo))), (mo, .inr (9, [.int 0, .int 0, .ref g2, .ref g3, .ref g4, .ref g5, .ref g6, .ref g7, .ref g8, .ref g9, .ref g10, .ref g11, .ref g12, .ref g13, .ref g14, .ref g15, .ref g16, .ref g17, .ref g18, .ref g19, .int 0, .int 0, .ref g22, .int 0, .ref g24, .int 0, .int 0, .int (-1), .ref g28, .ref g29, .int 0, .int 0]))] H) (hD : va_D A [(h0, .inr (5, [.ref s0, .ref de, .ref kl, .ref tl, .ref cu, .ref hk, .ref ca, .int 0, .int 0, .int (-1), .int 0, .int 0])), (kl, .inr (2, [.ref kx, .ref ky, .int 0])), (tl, .inr (4, [.ref tx, .ref ty, .int 1])), (s0, .inr (3, [.ref a0, .ref a1, .ref a2, .ref a3, .ref a4, .ref a5, .ref a6, .int 0, .ref a7, .ref a8, .ref a9, .ref a10, .ref a11, .int 0])), (ou, .inl (C 2, 1, .inr (.inl fo))), (mo, .inr (9, [.int 0, .int 0, .ref g2, .ref g3, .ref g4, .ref g5, .ref g6, .ref g7, .ref g8, .ref g9, .ref g10, .ref g11, .ref g12, .ref g13, .ref g14, .ref g15, .ref g16, .ref g17, .ref g18, .ref g19, .int 0, .int 0, .ref g22, .int 0, .ref g24, .int 0, .int 0, .int (-1), .ref g28, .ref g29, .int 0, .int 0]))]) (hS : va_S A s.heap H locs) (hl : lv_has ls 7 [(4, .int 0), (3, .ref ou), (2, .ref mo), (1, .ref h0), (0, .ref b)]) : W p l e room_1 s m #[Value.ref b] below meth c H locs 254 111937 (lw_Z below #[Value.ref b] s) (F0 m 1676 ls []) := by
  obtain ⟨hl0, hx, hb, hr, hml, hown, ht, hX, hbl, hlocks, hK, hE, hA, hAs, hbA⟩ := h
  have hAb := hAs
  refine lv_aload_n hx hb dL_law_1676 rfl (lv_at hl 3 rfl) ?_
  refine lv_aload_n hx hb dL_law_1677 rfl (lv_at hl 4 rfl) ?_
  refine lv_iload hx hb dL_law_1678 (lv_at hl 0 rfl) ?_
  refine lv_iconst (v := 1) hx hb dL_law_1680 (by decide) ?_
  refine lv_iadd hx hb dL_law_1681 ?_
  refine lv_topi (fun x_1 ex_1 => ?_)
  obtain rfl : x_1 = (1 : Int32) := ex_1.trans (by decide)
  refine va_sld hx hb hX hbl hbA hS (by unfold vp_in; decide) dL_law_1682 ?_
  refine lv_aload_n hx hb dL_law_1683 rfl (lv_at hl 1 rfl) ?_
  have hPc := hP.sub (ws' := [(h0, .inr (5, [.ref s0, .ref de, .ref kl, .ref tl, .ref cu, .ref hk, .ref ca, .int 0, .int 0, .int (-1), .int 0, .int 0])), (kl, .inr (2, [.ref kx, .ref ky, .int 0])), (tl, .inr (4, [.ref tx, .ref ty, .int 1])), (s0, .inr (3, [.ref a0, .ref a1, .ref a2, .ref a3, .ref a4, .ref a5, .ref a6, .int 0, .ref a7, .ref a8, .ref a9, .ref a10, .ref a11, .int 0])), (ou, .inl (C 2, 1, .inr (.inl fo)))]) [0, 1, 2, 3, 4] rfl
  have hDc := hD.sub (ws' := [(h0, .inr (5, [.ref s0, .ref de, .ref kl, .ref tl, .ref cu, .ref hk, .ref ca, .int 0, .int 0, .int (-1), .int 0, .int 0])), (kl, .inr (2, [.ref kx, .ref ky, .int 0])), (tl, .inr (4, [.ref tx, .ref ty, .int 1])), (s0, .inr (3, [.ref a0, .ref a1, .ref a2, .ref a3, .ref a4, .ref a5, .ref a6, .int 0, .ref a7, .ref a8, .ref a9, .ref a10, .ref a11, .int 0])), (ou, .inl (C 2, 1, .inr (.inl fo)))]) [0, 1, 2, 3, 4] (by decide) rfl
  have hFc := va_free (wc := [(h0, .inr (5, [.ref s0, .ref de, .ref kl, .ref tl, .ref cu, .ref hk, .ref ca, .int 0, .int 0, .int (-1), .int 0, .int 0])), (kl, .inr (2, [.ref kx, .ref ky, .int 0])), (tl, .inr (4, [.ref tx, .ref ty, .int 1])), (s0, .inr (3, [.ref a0, .ref a1, .ref a2, .ref a3, .ref a4, .ref a5, .ref a6, .int 0, .ref a7, .ref a8, .ref a9, .ref a10, .ref a11, .int 0])), (ou, .inl (C 2, 1, .inr (.inl fo)))]) hD hS hA [0, 1, 2, 3, 4] rfl
  refine va_calli (vx_runSW (As := [.ref h0, .int (xs (Int32.toNatClampNeg 1)), .ref ou]) (rest := []) ⟨hx, hb, hml, hown, ht⟩ (kL_count l hl0 D C s.heap.size H.size h0 s0 de kl tl cu hk ca kx ky tx ty a0 a1 a2 a3 a4 a5 a6 a7 a8 a9 a10 a11 ((xs (Int32.toNatClampNeg 1))) ou fo) (vx_cwSW 3 ht (xg_T m_661 m_662 m_558 m_488) rfl rfl rfl (by decide +kernel) ⟨Nat.le_of_ble_eq_true rfl, Nat.le_of_ble_eq_true rfl⟩) ⟨xPc_bl, xPc_at hPc hK hDc hE hS hAb⟩ rfl rfl hl.1 rfl (lv_room (Nat.le_of_ble_eq_true rfl)) dL_law_1684 ⟨(by decide), (by decide)⟩) hS (fun q _ h => hFc q h) hFc (fun r_2 u_3 t H1 locs ht1 hvm hw hB hz1 hk1 hS => ?_)
  obtain ⟨hP1, hD1⟩ := hB
  rw [ht1] at hP1
  try dsimp only at hw
  obtain ⟨hP, hD⟩ := va_join (wr := [(mo, .inr (9, [.int 0, .int 0, .ref g2, .ref g3, .ref g4, .ref g5, .ref g6, .ref g7, .ref g8, .ref g9, .ref g10, .ref g11, .ref g12, .ref g13, .ref g14, .ref g15, .ref g16, .ref g17, .ref g18, .ref g19, .int 0, .int 0, .ref g22, .int 0, .ref g24, .int 0, .int 0, .int (-1), .ref g28, .ref g29, .int 0, .int 0]))]) (w1 := [(ou, .inl (C 2, 1, .inr (.inl (u_3))))]) hP hD [0, 1, 2, 3, 4] [5] rfl rfl (by decide) (by decide) hk1 hFc hP1 hD1
  generalize H1 = H at hP hS ⊢
  have hP : va_P D vwCl [(mo, .inr (9, [.int 0, .int 0, .ref g2, .ref g3, .ref g4, .ref g5, .ref g6, .ref g7, .ref g8, .ref g9, .ref g10, .ref g11, .ref g12, .ref g13, .ref g14, .ref g15, .ref g16, .ref g17, .ref g18, .ref g19, .int 0, .int 0, .ref g22, .int 0, .ref g24, .int 0, .int 0, .int (-1), .ref g28, .ref g29, .int 0, .int 0])), (ou, .inl (C 2, 1, .inr (.inl (u_3))))] H := hP
  have hD : va_D A [(mo, .inr (9, [.int 0, .int 0, .ref g2, .ref g3, .ref g4, .ref g5, .ref g6, .ref g7, .ref g8, .ref g9, .ref g10, .ref g11, .ref g12, .ref g13, .ref g14, .ref g15, .ref g16, .ref g17, .ref g18, .ref g19, .int 0, .int 0, .ref g22, .int 0, .ref g24, .int 0, .int 0, .int (-1), .ref g28, .ref g29, .int 0, .int 0])), (ou, .inl (C 2, 1, .inr (.inl (u_3))))] := hD
  have hq_1684 := hw
  refine W.widen (k := 257) (n := 111955) (by decide) (by decide) ?_
  rcases hq_1684 with ⟨y1, y2, y3⟩ | ⟨y1, y2⟩
  · skip
    obtain rfl : r_2 = (0 : Int32) := y2
    refine lv_istore (lv' := [(5, .int 0), (4, .int 0), (3, .ref ou), (2, .ref mo), (1, .ref h0), (0, .ref b)]) hx hb dL_law_1687 hl (by decide) rfl (fun ls hl => ?_)
    refine lv_aload_n hx hb dL_law_1689 rfl (lv_at hl 3 rfl) ?_
    refine lv_aload_n hx hb dL_law_1690 rfl (lv_at hl 5 rfl) ?_
    refine lv_iload hx hb dL_law_1691 (lv_at hl 1 rfl) ?_
    refine lv_iconst (v := 1) hx hb dL_law_1693 (by decide) ?_
    refine lv_iadd hx hb dL_law_1694 ?_
    refine lv_topi (fun x_4 ex_4 => ?_)
    obtain rfl : x_4 = (1 : Int32) := ex_4.trans (by decide)
    refine va_sld hx hb hX hbl hbA hS (by unfold vp_in; decide) dL_law_1695 ?_
    have hPc := hP.sub (ws' := [(mo, .inr (9, [.int 0, .int 0, .ref g2, .ref g3, .ref g4, .ref g5, .ref g6, .ref g7, .ref g8, .ref g9, .ref g10, .ref g11, .ref g12, .ref g13, .ref g14, .ref g15, .ref g16, .ref g17, .ref g18, .ref g19, .int 0, .int 0, .ref g22, .int 0, .ref g24, .int 0, .int 0, .int (-1), .ref g28, .ref g29, .int 0, .int 0]))]) [0] rfl
    have hDc := hD.sub (ws' := [(mo, .inr (9, [.int 0, .int 0, .ref g2, .ref g3, .ref g4, .ref g5, .ref g6, .ref g7, .ref g8, .ref g9, .ref g10, .ref g11, .ref g12, .ref g13, .ref g14, .ref g15, .ref g16, .ref g17, .ref g18, .ref g19, .int 0, .int 0, .ref g22, .int 0, .ref g24, .int 0, .int 0, .int (-1), .ref g28, .ref g29, .int 0, .int 0]))]) [0] (by decide) rfl
    have hFc := va_free (wc := [(mo, .inr (9, [.int 0, .int 0, .ref g2, .ref g3, .ref g4, .ref g5, .ref g6, .ref g7, .ref g8, .ref g9, .ref g10, .ref g11, .ref g12, .ref g13, .ref g14, .ref g15, .ref g16, .ref g17, .ref g18, .ref g19, .int 0, .int 0, .ref g22, .int 0, .ref g24, .int 0, .int 0, .int (-1), .ref g28, .ref g29, .int 0, .int 0]))]) hD hS hA [0] rfl
    refine va_calli (va_runV (As := [.int (xs (Int32.toNatClampNeg 1))]) (rest := []) ⟨hx, hb, hml, hown, ht⟩ (k9p_count l D C s.heap.size H.size mo g2 g3 g4 g5 g6 g7 g8 g9 g10 g11 g12 g13 g14 g15 g16 g17 g18 g19 g22 g24 g28 g29 ((xs (Int32.toNatClampNeg 1)))) (cwV 1 ht (xg_V m_663 m_664 m_665 m_391 m_229) rfl rfl rfl (by decide +kernel) ⟨Nat.le_of_ble_eq_true rfl, Nat.le_of_ble_eq_true rfl⟩) ⟨xPc_bl, va_recv hK hPc (ci := 9) (q0 := 0) rfl rfl, xPc_at hPc hK hDc hE hS hAb⟩ rfl rfl hl.1 rfl (lv_room (Nat.le_of_ble_eq_true rfl)) dL_law_1696 ⟨(by decide), (by decide)⟩) hS (fun q _ h => hFc q h) hFc (fun r_5 u_6 t H1 locs ht1 hvm hw hB hz1 hk1 hS => ?_)
    obtain ⟨hP1, hD1⟩ := hB
    rw [ht1] at hP1
    try dsimp only at hw
    obtain ⟨hP, hD⟩ := va_join (wr := [(ou, .inl (C 2, 1, .inr (.inl (u_3))))]) (w1 := [(mo, .inr (9, [.int (u_6.2 0 0), .int (u_6.2 1 0), .ref g2, .ref g3, .ref g4, .ref g5, .ref g6, .ref g7, .ref g8, .ref g9, .ref g10, .ref g11, .ref g12, .ref g13, .ref g14, .ref g15, .ref g16, .ref g17, .ref g18, .ref g19, .int (u_6.2 2 0), .int (u_6.2 3 0), .ref g22, .int (u_6.2 4 0), .ref g24, .int (u_6.2 5 0), .int (u_6.2 6 0), .int (u_6.2 7 0), .ref g28, .ref g29, .int (u_6.2 8 0), .int (u_6.2 9 0)]))]) hP hD [0] [1] rfl rfl (by decide) (by decide) hk1 hFc hP1 hD1
    generalize H1 = H at hP hS ⊢
    have hP : va_P D vwCl [(ou, .inl (C 2, 1, .inr (.inl (u_3)))), (mo, .inr (9, [.int (u_6.2 0 0), .int (u_6.2 1 0), .ref g2, .ref g3, .ref g4, .ref g5, .ref g6, .ref g7, .ref g8, .ref g9, .ref g10, .ref g11, .ref g12, .ref g13, .ref g14, .ref g15, .ref g16, .ref g17, .ref g18, .ref g19, .int (u_6.2 2 0), .int (u_6.2 3 0), .ref g22, .int (u_6.2 4 0), .ref g24, .int (u_6.2 5 0), .int (u_6.2 6 0), .int (u_6.2 7 0), .ref g28, .ref g29, .int (u_6.2 8 0), .int (u_6.2 9 0)]))] H := hP
    have hD : va_D A [(ou, .inl (C 2, 1, .inr (.inl (u_3)))), (mo, .inr (9, [.int (u_6.2 0 0), .int (u_6.2 1 0), .ref g2, .ref g3, .ref g4, .ref g5, .ref g6, .ref g7, .ref g8, .ref g9, .ref g10, .ref g11, .ref g12, .ref g13, .ref g14, .ref g15, .ref g16, .ref g17, .ref g18, .ref g19, .int (u_6.2 2 0), .int (u_6.2 3 0), .ref g22, .int (u_6.2 4 0), .ref g24, .int (u_6.2 5 0), .int (u_6.2 6 0), .int (u_6.2 7 0), .ref g28, .ref g29, .int (u_6.2 8 0), .int (u_6.2 9 0)]))] := hD
    have hq_1696 := hw
    rcases hq_1696 with ⟨z1, z2, z3⟩ | ⟨z1, z3⟩
    · skip
      obtain rfl := z2
      refine lv_istore (lv' := [(6, .int (if ((xs (Int32.toNatClampNeg 1))) = 3 then -1 else 0)), (5, .int 0), (4, .int 0), (3, .ref ou), (2, .ref mo), (1, .ref h0), (0, .ref b)]) hx hb dL_law_1699 hl (by decide) rfl (fun ls hl => ?_)
      refine lv_aload_n hx hb dL_law_1701 rfl (lv_at hl 4 rfl) ?_
      have hPc := hP.sub (ws' := [(mo, .inr (9, [.int (u_6.2 0 0), .int (u_6.2 1 0), .ref g2, .ref g3, .ref g4, .ref g5, .ref g6, .ref g7, .ref g8, .ref g9, .ref g10, .ref g11, .ref g12, .ref g13, .ref g14, .ref g15, .ref g16, .ref g17, .ref g18, .ref g19, .int (u_6.2 2 0), .int (u_6.2 3 0), .ref g22, .int (u_6.2 4 0), .ref g24, .int (u_6.2 5 0), .int (u_6.2 6 0), .int (u_6.2 7 0), .ref g28, .ref g29, .int (u_6.2 8 0), .int (u_6.2 9 0)]))]) [1] rfl
      have hDc := hD.sub (ws' := [(mo, .inr (9, [.int (u_6.2 0 0), .int (u_6.2 1 0), .ref g2, .ref g3, .ref g4, .ref g5, .ref g6, .ref g7, .ref g8, .ref g9, .ref g10, .ref g11, .ref g12, .ref g13, .ref g14, .ref g15, .ref g16, .ref g17, .ref g18, .ref g19, .int (u_6.2 2 0), .int (u_6.2 3 0), .ref g22, .int (u_6.2 4 0), .ref g24, .int (u_6.2 5 0), .int (u_6.2 6 0), .int (u_6.2 7 0), .ref g28, .ref g29, .int (u_6.2 8 0), .int (u_6.2 9 0)]))]) [1] (by decide) rfl
      have hFc := va_free (wc := [(mo, .inr (9, [.int (u_6.2 0 0), .int (u_6.2 1 0), .ref g2, .ref g3, .ref g4, .ref g5, .ref g6, .ref g7, .ref g8, .ref g9, .ref g10, .ref g11, .ref g12, .ref g13, .ref g14, .ref g15, .ref g16, .ref g17, .ref g18, .ref g19, .int (u_6.2 2 0), .int (u_6.2 3 0), .ref g22, .int (u_6.2 4 0), .ref g24, .int (u_6.2 5 0), .int (u_6.2 6 0), .int (u_6.2 7 0), .ref g28, .ref g29, .int (u_6.2 8 0), .int (u_6.2 9 0)]))]) hD hS hA [1] rfl
      refine va_calli (va_runV (As := []) (rest := []) ⟨hx, hb, hml, hown, ht⟩ (k9_thrown l D C s.heap.size H.size mo g2 g3 g4 g5 g6 g7 g8 g9 g10 g11 g12 g13 g14 g15 g16 g17 g18 g19 g22 g24 g28 g29 (u_6.2 0 0) (u_6.2 1 0) (u_6.2 2 0) (u_6.2 3 0) (u_6.2 4 0) (u_6.2 5 0) (u_6.2 6 0) (u_6.2 7 0) (u_6.2 8 0) (u_6.2 9 0)) (cwV 0 ht (xg_V m_562 m_563 m_564 m_391 m_221) rfl rfl rfl (by decide +kernel) ⟨Nat.le_of_ble_eq_true rfl, Nat.le_of_ble_eq_true rfl⟩) ⟨xPc_bl, va_recv hK hPc (ci := 9) (q0 := 0) rfl rfl, xPc_at hPc hK hDc hE hS hAb⟩ rfl rfl hl.1 rfl (lv_room (Nat.le_of_ble_eq_true rfl)) dL_law_1702 ⟨(by decide), (by decide)⟩) hS (fun q _ h => hFc q h) hFc (fun r_7 u_8 t H1 locs ht1 hvm hw hB hz1 hk1 hS => ?_)
      obtain ⟨hP1, hD1⟩ := hB
      rw [ht1] at hP1
      try dsimp only at hw
      obtain ⟨hP, hD⟩ := va_join (wr := [(ou, .inl (C 2, 1, .inr (.inl (u_3))))]) (w1 := [(mo, .inr (9, [.int (u_6.2 0 0), .int (u_6.2 1 0), .ref g2, .ref g3, .ref g4, .ref g5, .ref g6, .ref g7, .ref g8, .ref g9, .ref g10, .ref g11, .ref g12, .ref g13, .ref g14, .ref g15, .ref g16, .ref g17, .ref g18, .ref g19, .int (u_6.2 2 0), .int (u_6.2 3 0), .ref g22, .int (u_6.2 4 0), .ref g24, .int (u_6.2 5 0), .int (u_6.2 6 0), .int (u_6.2 7 0), .ref g28, .ref g29, .int (u_6.2 8 0), .int (u_6.2 9 0)]))]) hP hD [1] [0] rfl rfl (by decide) (by decide) hk1 hFc hP1 hD1
      generalize H1 = H at hP hS ⊢
      have hP : va_P D vwCl [(ou, .inl (C 2, 1, .inr (.inl (u_3)))), (mo, .inr (9, [.int (u_6.2 0 0), .int (u_6.2 1 0), .ref g2, .ref g3, .ref g4, .ref g5, .ref g6, .ref g7, .ref g8, .ref g9, .ref g10, .ref g11, .ref g12, .ref g13, .ref g14, .ref g15, .ref g16, .ref g17, .ref g18, .ref g19, .int (u_6.2 2 0), .int (u_6.2 3 0), .ref g22, .int (u_6.2 4 0), .ref g24, .int (u_6.2 5 0), .int (u_6.2 6 0), .int (u_6.2 7 0), .ref g28, .ref g29, .int (u_6.2 8 0), .int (u_6.2 9 0)]))] H := hP
      have hD : va_D A [(ou, .inl (C 2, 1, .inr (.inl (u_3)))), (mo, .inr (9, [.int (u_6.2 0 0), .int (u_6.2 1 0), .ref g2, .ref g3, .ref g4, .ref g5, .ref g6, .ref g7, .ref g8, .ref g9, .ref g10, .ref g11, .ref g12, .ref g13, .ref g14, .ref g15, .ref g16, .ref g17, .ref g18, .ref g19, .int (u_6.2 2 0), .int (u_6.2 3 0), .ref g22, .int (u_6.2 4 0), .ref g24, .int (u_6.2 5 0), .int (u_6.2 6 0), .int (u_6.2 7 0), .ref g28, .ref g29, .int (u_6.2 8 0), .int (u_6.2 9 0)]))] := hD
      have hq_1702 := hw
      obtain rfl : r_7 = (0 : Int32) := hw.trans z3
      refine lv_iload hx hb dL_law_1705 (lv_at hl 1 rfl) ?_
      refine lv_icmp_eq (tgt := 1712) hx hb dL_law_1707 (by decide) (fun c_1707 => ?_) (fun c_1707 => ?_)
      rotate_left
      · exact absurd c_1707 (by decide)
      refine lv_iload hx hb dL_law_1712 (lv_at hl 1 rfl) ?_
      refine lv_if_ne (tgt := 1729) hx hb dL_law_1714 (by decide) (fun c_1714 => ?_) (fun c_1714 => ?_)
      · exact absurd c_1714 (by decide)
      refine lv_aload_n hx hb dL_law_1717 rfl (lv_at hl 3 rfl) ?_
      refine lv_iconst (v := 0) hx hb dL_law_1718 (by decide) ?_
      refine va_lald hx hb hK hP 0 2 rfl rfl (by unfold vp_in; decide) dL_law_1719 ?_
      refine lv_iload hx hb dL_law_1720 (lv_at hl 0 rfl) ?_
      refine lv_i2l hx hb dL_law_1722 rfl ?_
      refine W.lcmp hx hb dL_law_1723 ?_
      refine lv_topi (fun x_9 ex_9 => ?_)
      obtain rfl : x_9 = (0 : Int32) := ex_9.trans (x_cmp0 (x_atL y3))
      refine lv_if_eq (tgt := 1729) hx hb dL_law_1724 (by decide) (fun c_1724 => ?_) (fun c_1724 => ?_)
      rotate_left
      · exact absurd c_1724 (by decide)
      refine lv_goto (tgt := 1732) hx hb dL_law_1729 (by decide) ?_
      exact lc_end ⟨hl0, hx, hb, hr, hml, hown, ht, hX, hbl, hlocks, hK, hE, hA, hAs, hbA⟩ (by decide) (by decide) hS (lv_sub hl [2, 6] rfl)
    · skip
      exact absurd y1 z1
  · skip
    obtain rfl : r_2 = (1 : Int32) := y2
    refine lv_istore (lv' := [(5, .int 1), (4, .int 0), (3, .ref ou), (2, .ref mo), (1, .ref h0), (0, .ref b)]) hx hb dL_law_1687 hl (by decide) rfl (fun ls hl => ?_)
    refine lv_aload_n hx hb dL_law_1689 rfl (lv_at hl 3 rfl) ?_
    refine lv_aload_n hx hb dL_law_1690 rfl (lv_at hl 5 rfl) ?_
    refine lv_iload hx hb dL_law_1691 (lv_at hl 1 rfl) ?_
    refine lv_iconst (v := 1) hx hb dL_law_1693 (by decide) ?_
    refine lv_iadd hx hb dL_law_1694 ?_
    refine lv_topi (fun x_10 ex_10 => ?_)
    obtain rfl : x_10 = (1 : Int32) := ex_10.trans (by decide)
    refine va_sld hx hb hX hbl hbA hS (by unfold vp_in; decide) dL_law_1695 ?_
    have hPc := hP.sub (ws' := [(mo, .inr (9, [.int 0, .int 0, .ref g2, .ref g3, .ref g4, .ref g5, .ref g6, .ref g7, .ref g8, .ref g9, .ref g10, .ref g11, .ref g12, .ref g13, .ref g14, .ref g15, .ref g16, .ref g17, .ref g18, .ref g19, .int 0, .int 0, .ref g22, .int 0, .ref g24, .int 0, .int 0, .int (-1), .ref g28, .ref g29, .int 0, .int 0]))]) [0] rfl
    have hDc := hD.sub (ws' := [(mo, .inr (9, [.int 0, .int 0, .ref g2, .ref g3, .ref g4, .ref g5, .ref g6, .ref g7, .ref g8, .ref g9, .ref g10, .ref g11, .ref g12, .ref g13, .ref g14, .ref g15, .ref g16, .ref g17, .ref g18, .ref g19, .int 0, .int 0, .ref g22, .int 0, .ref g24, .int 0, .int 0, .int (-1), .ref g28, .ref g29, .int 0, .int 0]))]) [0] (by decide) rfl
    have hFc := va_free (wc := [(mo, .inr (9, [.int 0, .int 0, .ref g2, .ref g3, .ref g4, .ref g5, .ref g6, .ref g7, .ref g8, .ref g9, .ref g10, .ref g11, .ref g12, .ref g13, .ref g14, .ref g15, .ref g16, .ref g17, .ref g18, .ref g19, .int 0, .int 0, .ref g22, .int 0, .ref g24, .int 0, .int 0, .int (-1), .ref g28, .ref g29, .int 0, .int 0]))]) hD hS hA [0] rfl
    refine va_calli (va_runV (As := [.int (xs (Int32.toNatClampNeg 1))]) (rest := []) ⟨hx, hb, hml, hown, ht⟩ (k9p_count l D C s.heap.size H.size mo g2 g3 g4 g5 g6 g7 g8 g9 g10 g11 g12 g13 g14 g15 g16 g17 g18 g19 g22 g24 g28 g29 ((xs (Int32.toNatClampNeg 1)))) (cwV 1 ht (xg_V m_663 m_664 m_665 m_391 m_229) rfl rfl rfl (by decide +kernel) ⟨Nat.le_of_ble_eq_true rfl, Nat.le_of_ble_eq_true rfl⟩) ⟨xPc_bl, va_recv hK hPc (ci := 9) (q0 := 0) rfl rfl, xPc_at hPc hK hDc hE hS hAb⟩ rfl rfl hl.1 rfl (lv_room (Nat.le_of_ble_eq_true rfl)) dL_law_1696 ⟨(by decide), (by decide)⟩) hS (fun q _ h => hFc q h) hFc (fun r_11 u_12 t H1 locs ht1 hvm hw hB hz1 hk1 hS => ?_)
    obtain ⟨hP1, hD1⟩ := hB
    rw [ht1] at hP1
    try dsimp only at hw
    obtain ⟨hP, hD⟩ := va_join (wr := [(ou, .inl (C 2, 1, .inr (.inl (u_3))))]) (w1 := [(mo, .inr (9, [.int (u_12.2 0 0), .int (u_12.2 1 0), .ref g2, .ref g3, .ref g4, .ref g5, .ref g6, .ref g7, .ref g8, .ref g9, .ref g10, .ref g11, .ref g12, .ref g13, .ref g14, .ref g15, .ref g16, .ref g17, .ref g18, .ref g19, .int (u_12.2 2 0), .int (u_12.2 3 0), .ref g22, .int (u_12.2 4 0), .ref g24, .int (u_12.2 5 0), .int (u_12.2 6 0), .int (u_12.2 7 0), .ref g28, .ref g29, .int (u_12.2 8 0), .int (u_12.2 9 0)]))]) hP hD [0] [1] rfl rfl (by decide) (by decide) hk1 hFc hP1 hD1
    generalize H1 = H at hP hS ⊢
    have hP : va_P D vwCl [(ou, .inl (C 2, 1, .inr (.inl (u_3)))), (mo, .inr (9, [.int (u_12.2 0 0), .int (u_12.2 1 0), .ref g2, .ref g3, .ref g4, .ref g5, .ref g6, .ref g7, .ref g8, .ref g9, .ref g10, .ref g11, .ref g12, .ref g13, .ref g14, .ref g15, .ref g16, .ref g17, .ref g18, .ref g19, .int (u_12.2 2 0), .int (u_12.2 3 0), .ref g22, .int (u_12.2 4 0), .ref g24, .int (u_12.2 5 0), .int (u_12.2 6 0), .int (u_12.2 7 0), .ref g28, .ref g29, .int (u_12.2 8 0), .int (u_12.2 9 0)]))] H := hP
    have hD : va_D A [(ou, .inl (C 2, 1, .inr (.inl (u_3)))), (mo, .inr (9, [.int (u_12.2 0 0), .int (u_12.2 1 0), .ref g2, .ref g3, .ref g4, .ref g5, .ref g6, .ref g7, .ref g8, .ref g9, .ref g10, .ref g11, .ref g12, .ref g13, .ref g14, .ref g15, .ref g16, .ref g17, .ref g18, .ref g19, .int (u_12.2 2 0), .int (u_12.2 3 0), .ref g22, .int (u_12.2 4 0), .ref g24, .int (u_12.2 5 0), .int (u_12.2 6 0), .int (u_12.2 7 0), .ref g28, .ref g29, .int (u_12.2 8 0), .int (u_12.2 9 0)]))] := hD
    have hq_1696 := hw
    rcases hq_1696 with ⟨z1, z2, z3⟩ | ⟨z1, z3⟩
    · skip
      exact absurd z1 y1
    · skip
      refine lv_istore (lv' := [(6, .int r_11), (5, .int 1), (4, .int 0), (3, .ref ou), (2, .ref mo), (1, .ref h0), (0, .ref b)]) hx hb dL_law_1699 hl (by decide) rfl (fun ls hl => ?_)
      refine lv_aload_n hx hb dL_law_1701 rfl (lv_at hl 4 rfl) ?_
      have hPc := hP.sub (ws' := [(mo, .inr (9, [.int (u_12.2 0 0), .int (u_12.2 1 0), .ref g2, .ref g3, .ref g4, .ref g5, .ref g6, .ref g7, .ref g8, .ref g9, .ref g10, .ref g11, .ref g12, .ref g13, .ref g14, .ref g15, .ref g16, .ref g17, .ref g18, .ref g19, .int (u_12.2 2 0), .int (u_12.2 3 0), .ref g22, .int (u_12.2 4 0), .ref g24, .int (u_12.2 5 0), .int (u_12.2 6 0), .int (u_12.2 7 0), .ref g28, .ref g29, .int (u_12.2 8 0), .int (u_12.2 9 0)]))]) [1] rfl
      have hDc := hD.sub (ws' := [(mo, .inr (9, [.int (u_12.2 0 0), .int (u_12.2 1 0), .ref g2, .ref g3, .ref g4, .ref g5, .ref g6, .ref g7, .ref g8, .ref g9, .ref g10, .ref g11, .ref g12, .ref g13, .ref g14, .ref g15, .ref g16, .ref g17, .ref g18, .ref g19, .int (u_12.2 2 0), .int (u_12.2 3 0), .ref g22, .int (u_12.2 4 0), .ref g24, .int (u_12.2 5 0), .int (u_12.2 6 0), .int (u_12.2 7 0), .ref g28, .ref g29, .int (u_12.2 8 0), .int (u_12.2 9 0)]))]) [1] (by decide) rfl
      have hFc := va_free (wc := [(mo, .inr (9, [.int (u_12.2 0 0), .int (u_12.2 1 0), .ref g2, .ref g3, .ref g4, .ref g5, .ref g6, .ref g7, .ref g8, .ref g9, .ref g10, .ref g11, .ref g12, .ref g13, .ref g14, .ref g15, .ref g16, .ref g17, .ref g18, .ref g19, .int (u_12.2 2 0), .int (u_12.2 3 0), .ref g22, .int (u_12.2 4 0), .ref g24, .int (u_12.2 5 0), .int (u_12.2 6 0), .int (u_12.2 7 0), .ref g28, .ref g29, .int (u_12.2 8 0), .int (u_12.2 9 0)]))]) hD hS hA [1] rfl
      refine va_calli (va_runV (As := []) (rest := []) ⟨hx, hb, hml, hown, ht⟩ (k9_thrown l D C s.heap.size H.size mo g2 g3 g4 g5 g6 g7 g8 g9 g10 g11 g12 g13 g14 g15 g16 g17 g18 g19 g22 g24 g28 g29 (u_12.2 0 0) (u_12.2 1 0) (u_12.2 2 0) (u_12.2 3 0) (u_12.2 4 0) (u_12.2 5 0) (u_12.2 6 0) (u_12.2 7 0) (u_12.2 8 0) (u_12.2 9 0)) (cwV 0 ht (xg_V m_562 m_563 m_564 m_391 m_221) rfl rfl rfl (by decide +kernel) ⟨Nat.le_of_ble_eq_true rfl, Nat.le_of_ble_eq_true rfl⟩) ⟨xPc_bl, va_recv hK hPc (ci := 9) (q0 := 0) rfl rfl, xPc_at hPc hK hDc hE hS hAb⟩ rfl rfl hl.1 rfl (lv_room (Nat.le_of_ble_eq_true rfl)) dL_law_1702 ⟨(by decide), (by decide)⟩) hS (fun q _ h => hFc q h) hFc (fun r_13 u_14 t H1 locs ht1 hvm hw hB hz1 hk1 hS => ?_)
      obtain ⟨hP1, hD1⟩ := hB
      rw [ht1] at hP1
      try dsimp only at hw
      obtain ⟨hP, hD⟩ := va_join (wr := [(ou, .inl (C 2, 1, .inr (.inl (u_3))))]) (w1 := [(mo, .inr (9, [.int (u_12.2 0 0), .int (u_12.2 1 0), .ref g2, .ref g3, .ref g4, .ref g5, .ref g6, .ref g7, .ref g8, .ref g9, .ref g10, .ref g11, .ref g12, .ref g13, .ref g14, .ref g15, .ref g16, .ref g17, .ref g18, .ref g19, .int (u_12.2 2 0), .int (u_12.2 3 0), .ref g22, .int (u_12.2 4 0), .ref g24, .int (u_12.2 5 0), .int (u_12.2 6 0), .int (u_12.2 7 0), .ref g28, .ref g29, .int (u_12.2 8 0), .int (u_12.2 9 0)]))]) hP hD [1] [0] rfl rfl (by decide) (by decide) hk1 hFc hP1 hD1
      generalize H1 = H at hP hS ⊢
      have hP : va_P D vwCl [(ou, .inl (C 2, 1, .inr (.inl (u_3)))), (mo, .inr (9, [.int (u_12.2 0 0), .int (u_12.2 1 0), .ref g2, .ref g3, .ref g4, .ref g5, .ref g6, .ref g7, .ref g8, .ref g9, .ref g10, .ref g11, .ref g12, .ref g13, .ref g14, .ref g15, .ref g16, .ref g17, .ref g18, .ref g19, .int (u_12.2 2 0), .int (u_12.2 3 0), .ref g22, .int (u_12.2 4 0), .ref g24, .int (u_12.2 5 0), .int (u_12.2 6 0), .int (u_12.2 7 0), .ref g28, .ref g29, .int (u_12.2 8 0), .int (u_12.2 9 0)]))] H := hP
      have hD : va_D A [(ou, .inl (C 2, 1, .inr (.inl (u_3)))), (mo, .inr (9, [.int (u_12.2 0 0), .int (u_12.2 1 0), .ref g2, .ref g3, .ref g4, .ref g5, .ref g6, .ref g7, .ref g8, .ref g9, .ref g10, .ref g11, .ref g12, .ref g13, .ref g14, .ref g15, .ref g16, .ref g17, .ref g18, .ref g19, .int (u_12.2 2 0), .int (u_12.2 3 0), .ref g22, .int (u_12.2 4 0), .ref g24, .int (u_12.2 5 0), .int (u_12.2 6 0), .int (u_12.2 7 0), .ref g28, .ref g29, .int (u_12.2 8 0), .int (u_12.2 9 0)]))] := hD
      have hq_1702 := hw
      obtain rfl : r_13 = (1 : Int32) := hw.trans z3
      refine lv_iload hx hb dL_law_1705 (lv_at hl 1 rfl) ?_
      refine lv_icmp_eq (tgt := 1712) hx hb dL_law_1707 (by decide) (fun c_1707 => ?_) (fun c_1707 => ?_)
      rotate_left
      · exact absurd c_1707 (by decide)
      refine lv_iload hx hb dL_law_1712 (lv_at hl 1 rfl) ?_
      refine lv_if_ne (tgt := 1729) hx hb dL_law_1714 (by decide) (fun c_1714 => ?_) (fun c_1714 => ?_)
      rotate_left
      · exact absurd c_1714 (by decide)
      refine lv_goto (tgt := 1732) hx hb dL_law_1729 (by decide) ?_
      exact lc_end ⟨hl0, hx, hb, hr, hml, hown, ht, hX, hbl, hlocks, hK, hE, hA, hAs, hbA⟩ (by decide) (by decide) hS (lv_sub hl [2, 6] rfl)
