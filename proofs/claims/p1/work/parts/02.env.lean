/-! the words that every method here takes: all the good ones of the tables -/
def xb : List Cond := lw_tbl.filter goodWord
theorem xb_in {w : Cond} (h : w ∈ xb) : w ∈ lw_tbl := (List.mem_filter.mp h).1
theorem xb_ok {w : Cond} (h : w ∈ xb) : w ∈ xb ∧ ((w.onTables && w.keeps) = true ∨ ∃ ty, w = .arrayClass ty) := ⟨h, good_of_word (List.mem_filter.mp h).2⟩
theorem xb_mk {w : Cond} (h : w ∈ lw_tbl) (g : goodWord w = true) : w ∈ xb := List.mem_filter.mpr ⟨h, g⟩
abbrev xw (y : MethodName) (c : ByteArray) (n : Nat) (r : Option FieldType) : List Cond := Cond.code y c n r :: xb
abbrev xwh (y : MethodName) (c : ByteArray) (n : Nat) (r : Option FieldType) (hh : List (Nat × Nat × Nat × Nat)) : List Cond := Cond.codeWith y c n r hh :: xb
theorem xg_c {c0 : Cond} (h : c0 ∈ xb) : GoodIn xb (c0 :: xb) := fun w hw => (List.mem_cons.mp hw).elim (fun e => by rw [e]; exact xb_ok h) xb_ok
theorem xg_V {own C : String} {idx : Nat} {y : MethodName} {c0 : Cond} (h1 : Cond.methodLink own idx y ∈ xb) (h2 : Cond.instanceMethod y ∈ xb) (h3 : Cond.selects C y y ∈ xb) (h4 : Cond.initialized C ∈ xb) (h5 : c0 ∈ xb) : GoodIn xb (wsV own idx C y (c0 :: xb)) := by
  intro w hw
  unfold wsV at hw
  rcases List.mem_append.mp hw with h | h
  · simp only [List.mem_cons, List.not_mem_nil, or_false] at h
    rcases h with rfl | rfl | rfl | rfl
    · exact xb_ok h1
    · exact xb_ok h2
    · exact xb_ok h3
    · exact xb_ok h4
  · exact xg_c h5 w h
theorem xg_S {own : String} {idx : Nat} {y : MethodName} {c0 : Cond} (h1 : Cond.methodLink own idx y ∈ xb) (h2 : Cond.static y ∈ xb) (h4 : Cond.initialized own ∈ xb) (h5 : c0 ∈ xb) : GoodIn xb (wsS own idx y (c0 :: xb)) := by
  intro w hw
  unfold wsS at hw
  rcases List.mem_append.mp hw with h | h
  · simp only [List.mem_cons, List.not_mem_nil, or_false] at h
    rcases h with rfl | rfl | rfl
    · exact xb_ok h1
    · exact xb_ok h2
    · exact xb_ok h4
  · exact xg_c h5 w h
theorem xg_T {own : String} {idx : Nat} {y : MethodName} {c0 : Cond} (h1 : Cond.methodLink own idx y ∈ xb) (h2 : Cond.static y ∈ xb) (h4 : Cond.initialized y.cls ∈ xb) (h5 : c0 ∈ xb) : GoodIn xb (va_wsS own idx y (c0 :: xb)) := by
  intro w hw
  unfold va_wsS at hw
  rcases List.mem_append.mp hw with h | h
  · simp only [List.mem_cons, List.not_mem_nil, or_false] at h
    rcases h with rfl | rfl | rfl
    · exact xb_ok h1
    · exact xb_ok h2
    · exact xb_ok h4
  · exact xg_c h5 w h
/-! what else a state must bear: words that the tables decide, Strings, two statics, three classes of arrays -/
def xn : List Cond := [.castable "java/lang/IllegalArgumentException" "java/lang/IllegalArgumentException", .castable "java/lang/IndexOutOfBoundsException" "java/lang/IndexOutOfBoundsException", .castable "ObjectRulesModel$Stop" "ObjectRulesModel$Stop",
  .declares (Jvm.Bundle.initS "java/lang/RuntimeException"), .declares (Jvm.Bundle.initS "java/lang/Exception"), .declares (Jvm.Bundle.initS "java/lang/Throwable"),
  .methodLinkNest "ObjectRules$Descriptors" 17 yX0_init "ObjectRules", .methodLinkNest "ObjectRules" 25 yX2_init "ObjectRules", .methodLinkNest "ObjectRules" 32 yX4_init "ObjectRules", .methodLinkNest "ObjectRules" 39 yX0_init "ObjectRules"]
theorem xn_on : ∀ w ∈ xn, w.onTables = true := by decide +kernel
theorem xn_warm {s U : State} (hW : s.WarmedH U.vm) : ∀ w ∈ xn, va_Nw w s → va_Nw w U := by
  intro w hw hZ
  simp only [xn, List.mem_cons, List.not_mem_nil, or_false] at hw
  rcases hw with rfl | rfl | rfl | rfl | rfl | rfl | rfl | rfl | rfl | rfl
  · exact va_Nw.warmC hW hZ
  · exact va_Nw.warmC hW hZ
  · exact va_Nw.warmC hW hZ
  · exact va_Nw.warmD hW hZ
  · exact va_Nw.warmD hW hZ
  · exact va_Nw.warmD hW hZ
  · exact va_Nw.warmM hW hZ
  · exact va_Nw.warmM hW hZ
  · exact va_Nw.warmM hW hZ
  · exact va_Nw.warmM hW hZ
def xs : List (Nat × String) := [(68, "a length is 0 to 100"), (76, "an act is 0 to 5"), (99, "no PROXY"), (219, "no OBJECT"), (221, "no KEY"), (223, "no VALUE"), (177, "no such one of THE KEYS"), (208, "count tells 0 to 3")]
abbrev xB (b0 : Nat) : Nat → Prop := fun q => b0 ≤ q
def xE (b0 : Nat) (U : State) : Prop := b0 ≤ U.heap.size ∧ (∀ w ∈ xn, va_Nw w U) ∧ (∀ z ∈ xs, ∃ q, vk_R RX5 z.1 z.2 q U) ∧ vx_Zq Jvm.Bundle.tN "UNASSIGNED_STACK" Jvm.Bundle.steD (xB b0) U U.heap ∧ vx_Zq Jvm.Bundle.tN "SUPPRESSED_SENTINEL" Jvm.Bundle.listD (xB b0) U U.heap ∧ va_AO "ObjectRules$Descriptor" U ∧ va_AO "ObjectRulesModel$Desc" U ∧ va_AO "ObjectRulesModel$Keys" U
theorem xE.at {b0 : Nat} {s U : State} {A : Nat → Prop} {H : Heap} {locs : List Loc} (h : xE b0 s) (hS : va_S A s.heap H locs) (hAb : ∀ q, A q → b0 ≤ q) (hU : U.heap = H) (hW : s.WarmedH U.vm) : xE b0 U := by
  obtain ⟨h1, h2, h3, h4, h5, h6, h7, h8⟩ := h
  refine ⟨by rw [hU]; exact Nat.le_trans h1 hS.1, fun w hw => xn_warm hW w hw (h2 w hw), fun z hz => ?_, ?_, ?_, va_AO.moved hW.alike h6, va_AO.moved hW.alike h7, va_AO.moved hW.alike h8⟩
  · obtain ⟨q, hq⟩ := h3 z hz
    exact ⟨q, vk_R.warm hW hq⟩
  · rw [hU]; exact vx_Zq.moved hW.alike (h4.kept (fun a ha hn => hS.2.1 a ha (fun z => hn (hAb _ z))))
  · rw [hU]; exact vx_Zq.moved hW.alike (h5.kept (fun a ha hn => hS.2.1 a ha (fun z => hn (hAb _ z))))
theorem xE.nw {b0 : Nat} {s : State} (h : xE b0 s) {w : Cond} (hw : w ∈ xn) : va_Nw w s := h.2.1 w hw
theorem xE.use {b0 : Nat} {s : State} {args : Array Value} (h : xE b0 s) {w : Cond} (hw : w ∈ xn) : w.before args s = true := va_Nw.use (xn_on w hw) (h.2.1 w hw)
/-! the arrays' classes, one for each kind of component -/
abbrev xTY (C : Nat → ClassId) : List (ClassId × FieldType) := [(C 0, .int), (C 1, .boolean), (C 2, .long), (C 3, .object "ObjectRules$Descriptor"), (C 4, .object "ObjectRulesModel$Desc"), (C 5, .object "ObjectRulesModel$Keys")]
theorem x_tyI {D : va_G} {C : Nat → ClassId} {cA : ClassId} {s : State} (hK : va_K D vwCl (xTY C ++ [(cA, .int)]) s) : cA = C 0 := by
  have h1 : s.vm.findClass ("[" ++ FieldType.int.toString) = some (C 0) := (hK.2 0 _ rfl).2
  have h2 : s.vm.findClass ("[" ++ FieldType.int.toString) = some cA := (hK.2 6 _ rfl).2
  exact Option.some.inj (h2.symm.trans h1)
theorem x_tyZ {D : va_G} {C : Nat → ClassId} {cA : ClassId} {s : State} (hK : va_K D vwCl (xTY C ++ [(cA, .boolean)]) s) : cA = C 1 := by
  have h1 : s.vm.findClass ("[" ++ FieldType.boolean.toString) = some (C 1) := (hK.2 1 _ rfl).2
  have h2 : s.vm.findClass ("[" ++ FieldType.boolean.toString) = some cA := (hK.2 6 _ rfl).2
  exact Option.some.inj (h2.symm.trans h1)
theorem x_tyJ {D : va_G} {C : Nat → ClassId} {cA : ClassId} {s : State} (hK : va_K D vwCl (xTY C ++ [(cA, .long)]) s) : cA = C 2 := by
  have h1 : s.vm.findClass ("[" ++ FieldType.long.toString) = some (C 2) := (hK.2 2 _ rfl).2
  have h2 : s.vm.findClass ("[" ++ FieldType.long.toString) = some cA := (hK.2 6 _ rfl).2
  exact Option.some.inj (h2.symm.trans h1)
theorem x_tyO {D : va_G} {C : Nat → ClassId} {cA : ClassId} {s : State} {n : String} {k : Nat} {tys : List (ClassId × FieldType)} (hK : va_K D vwCl (tys ++ [(cA, .object n)]) s) (hk : tys[k]? = some (C k, .object n)) : cA = C k := by
  have hl : k < tys.length := (List.getElem?_eq_some_iff.mp hk).1
  obtain ⟨kA, comp, -, -, -, h1⟩ := (hK.2 k _ (by rw [List.getElem?_append_left hl]; exact hk)).2
  obtain ⟨kB, comp2, -, -, -, h2⟩ := (hK.2 tys.length _ (by rw [List.getElem?_append_right (Nat.le_refl _), Nat.sub_self]; rfl)).2
  exact Option.some.inj (h2.symm.trans h1)
/-! a method's start -/
def xPc (D : va_G) (C : Nat → ClassId) (b0 : Nat) (av : List Value) (ws : va_W) (sz : Nat) : Array Value → State → Prop := va_Pc av (fun U => U.heap.size = sz ∧ va_P D vwCl ws U.heap ∧ va_K D vwCl (xTY C) U ∧ va_D (xB b0) ws ∧ xE b0 U)
theorem xPc_bl {D : va_G} {C : Nat → ClassId} {b0 sz : Nat} {av : List Value} {ws : va_W} : FrameBlind (xPc D C b0 av ws sz) := by
  intro a U g mk q
  obtain ⟨q0, q1, qP, qK, qD, qE⟩ := q
  exact ⟨q0, q1, qP, va_K.moved (u := U) (U := U.calling g mk a) (Vm.Alike.refl U.vm) qK, qD, xE.at (A := fun _ => False) (U := U.calling g mk a) (H := U.heap) (locs := []) qE va_S.rf (fun _ h => h.elim) rfl (State.WarmedH.refl U)⟩
theorem xPc_at {D : va_G} {C : Nat → ClassId} {b0 : Nat} {av : List Value} {ws : va_W} {s : State} {A : Nat → Prop} {H : Heap} {locs : List Loc} (hP : va_P D vwCl ws H) (hK : va_K D vwCl (xTY C) s) (hD : va_D A ws) (hE : xE b0 s) (hS : va_S A s.heap H locs) (hAb : ∀ q, A q → b0 ≤ q) : ∀ U : State, U.heap = H → s.WarmedH U.vm → xPc D C b0 av ws H.size av.toArray U :=
  fun U hU hW => ⟨rfl, by rw [hU], by rw [hU]; exact hP, va_K.moved hW.alike hK, hD.weaken (fun _ q _ h => hAb q.1 h), xE.at hE hS hAb hU hW⟩
theorem x_Ab {b0 sz : Nat} {ws : va_W} (hD : va_D (xB b0) ws) (hz : b0 ≤ sz) : ∀ q, va_A ws sz q → b0 ≤ q := by
  intro q h
  rcases h with ⟨k, e, h⟩ | h
  · exact hD.2 k (q, e) h
  · exact Nat.le_trans hz h
/-! what a method leaves: its world -/
abbrev xS : Type := (Nat → Nat) × (Nat → Nat → Int32)
def xBw {S : Type} (D : va_G) (A : Nat → Prop) (W' : S → va_W) : S → State → Prop := fun u t => va_P D vwCl (W' u) t.heap ∧ va_D A (W' u)
def xA (l : List Nat) : Nat → Nat := fun i => l.getD i 0
def xF (l : List (Nat → Int32)) : Nat → Nat → Int32 := fun i => l.getD i (fun _ => 0)
/-! throwing -/
abbrev xIAE : String := "java/lang/IllegalArgumentException"
abbrev xIOB : String := "java/lang/IndexOutOfBoundsException"
abbrev xNm : List String := ["java/lang/RuntimeException", "java/lang/Exception"]
def xX (E0 : String) (P : Prop) (A : Nat → Prop) : Addr → String → State → State → Prop := vx_X (fun _ : Unit => P) (fun _ E _ _ => E = E0) A
section XT
variable {p : Program} {l : Launch} {e : Env} {R : Room} {s : State} {m : MethodId} {args : Array Value} {below : List Frame} {meth : Method} {c : Code} {H : Heap} {locs : List Loc} {cells slots : Nat}
variable {free : Addr → Prop} {Qc : Array Value → State → Outcome → State → Prop} {XC : Addr → String → State → State → Prop}
/-- athrow, with no row of the table that takes it -/
theorem x_athrow {cc : ByteArray} {pc : Nat} {ls : Array Slot} {rest : List Value} {q : Addr} {E : String} {ce : Cell} (hexec : p.tables.exec = Jvm.exec) (hb : c.code = cc) (hd : decode cc pc = .ok (.athrow, 1)) (htab : ∀ x ∈ c.exceptionTable.toList, False) (hlocks : meth.locks = false)
    (hcell : H[q]? = some ce) (hv : ce.vm = .none) (hcl : s.vm.findClass E = some ce.cls) (hx : ∀ t : State, t.heap = H → s.vm.Alike t.vm → XC q E s t) (hf : ∀ z ∈ locs, free z.base) :
    W p l e R s m args below meth c H locs cells slots (vx_MQ below Qc XC args s cells slots free) (F0 m pc ls (.ref q :: rest)) := by
  intro T hT X
  obtain ⟨st1, hrun, hend, hW, hsm⟩ := X.athrowLeaves hexec (g := F0 m pc ls (.ref q :: rest)) rfl rfl rfl (fun x hx => (htab x hx).elim) (a := q) (rest := rest) rfl (by rw [hb]; exact hd) hlocks
  have hcell9 : (T.setFrames (.throwing q :: below)).heap[q]? = some ce := by
    show T.heap[q]? = some ce
    rw [hT]; exact hcell
  exact ⟨_, st1, .threw q, hrun, hend, Or.inr ⟨q, rfl, E, ce, locs, hx _ hT hW.alike, hcell9, hv, hcl, hW, hsm, hf⟩⟩
/-- the table's first row takes it -/
theorem x_find {e : Env} {S : State} {f : JFrame} {a : Addr} {Q : Handler → Pre} {E : CtlPost} {d : Bool} {acts : List Action} {x : ExceptionTableEntry} {t : List ExceptionTableEntry} {k : ClassId} {cell : Cell} (hx : covers x f.pc = true) (h0 : x.catchType ≠ 0)
    (hl : S.vm.ClassLinks e.platform f.method.cls x.catchType k) (hcell : S.heap[a]? = some cell) (hobj : ∀ k, cell.vm ≠ .statics k) (hk : ∃ z, S.vm.classes[cell.cls]? = some z) (hc : ∃ z, S.vm.classes[k]? = some z) (hfit : S.vm.assignable cell.cls k = true) :
    wp (findHandler.go f a (x :: t)) Q E e d acts S ↔ Q (.found x.handlerPc) d acts (S.setVm (S.vm.noted f.method.cls x.catchType (.cls k))) := by
  simp only [covers] at hx
  obtain ⟨ha, ht⟩ := (resolveClass_links e.toSetting hl).op (op := VmOp.resolveClass f.method.cls x.catchType) rfl
  have hal : S.vm.Alike (S.vm.noted f.method.cls x.catchType (.cls k)) := (Vm.Alike.refl S.vm).noted _ _ _
  obtain ⟨k1, hk1⟩ := hk
  obtain ⟨k2, hk2⟩ := hc
  obtain ⟨k3, hk3, -⟩ := hal.2.2 _ _ hk1
  obtain ⟨k4, hk4, -⟩ := hal.2.2 _ _ hk2
  have hfit2 : (S.vm.noted f.method.cls x.catchType (.cls k)).assignable cell.cls k = true := by rw [hal.assignable]; exact hfit
  simp [findHandler.go, hx, h0, ha, ht, hcell, hobj, hk3, hk4, hfit2, VmOp.dirties, VmOp.acts]
theorem x_catch {Q : State → Prop} {pc : Nat} {ls : Array Slot} {rest : List Value} {own name E : String} {ce : Cell} {q : Addr} (hown : s.vm.findClass own = some m.cls) (x : ExceptionTableEntry) (suf : List ExceptionTableEntry) (hsplit : c.exceptionTable.toList = x :: suf)
    (hx : covers x pc = true) (h0 : x.catchType ≠ 0) (hlink : (Cond.classLink own x.catchType name).before args s = true) (hcast : (Cond.castable E name).before args s = true) (hcell : H[q]? = some ce) (hv : ce.vm = .none) (hcl : s.vm.findClass E = some ce.cls)
    (kk : W p l e R s m args below meth c H locs cells slots Q (F0 m x.handlerPc ls [.ref q])) : vx_W p l e R s m args below meth c H locs cells slots Q (F0 m pc ls rest) q := by
  intro T hT X
  have hpl : e.platform.magicAccessors = ({} : Platform).magicAccessors := by rw [X.admits.platform]
  obtain ⟨c3, c4, hc3, hc4, hasg⟩ := Cond.castable_spec hcast
  cases Option.some.inj (hc3.symm.trans hcl)
  obtain ⟨c5, hc5, hl5⟩ := Cond.classLink_spec hown hlink e.platform hpl
  cases Option.some.inj (hc4.symm.trans hc5)
  obtain ⟨k0, hk0, -⟩ := Vm.findClass_spec hcl
  obtain ⟨k5, hk5, -⟩ := Vm.findClass_spec hc4
  obtain ⟨k0', hk0', -⟩ := X.warmed.alike.2.2 _ _ hk0
  obtain ⟨k5', hk5', -⟩ := X.warmed.alike.2.2 _ _ hk5
  obtain ⟨hg1, hw1, hr1⟩ := State.classEntry (e := e) X.warmed hl5
  have X' := X.noted hw1
  obtain ⟨t, a1, b1⟩ := kk (T.setVm (T.vm.noted m.cls x.catchType (.cls c4))) hT X'
  refine ⟨t, ?_, b1⟩
  have hat : At T (F0 m pc ls rest).method c below := X.here
  obtain ⟨hgo, hwi⟩ := hat.throwing q
  have hmeth : T.vm.method? m = some meth := X.method'
  have hfind : ∀ (Q : Handler → Pre) (E : CtlPost) (d : Bool) (acts : List Action), wp (findHandler (F0 m pc ls rest) q) Q E e d acts ((T.setTop (F0 m pc ls rest)).pushFrame (.throwing q)) ↔ Q (.found x.handlerPc) d acts (((T.setTop (F0 m pc ls rest)).pushFrame (.throwing q)).setVm (T.vm.noted m.cls x.catchType (.cls c4))) := by
    intro Q E d acts
    rw [W.findHandler_eq (meth := meth) (code := c) (by rw [Stand.throwing_vm]; exact hmeth) X.code, hsplit]
    have hvm : ((T.setTop (F0 m pc ls rest)).pushFrame (.throwing q)).vm = T.vm := Stand.throwing_vm _ _ _
    have hhp : ((T.setTop (F0 m pc ls rest)).pushFrame (.throwing q)).heap = T.heap := Stand.throwing_heap _ _ _
    have h9 := x_find (e := e) (S := (T.setTop (F0 m pc ls rest)).pushFrame (.throwing q)) (f := F0 m pc ls rest) (a := q) (Q := Q) (E := E) (d := d) (acts := acts) (x := x) (t := suf) (k := c4) (cell := ce) hx h0 (by rw [hvm]; exact X.warmed.classLinks hl5) (by rw [hhp, hT]; exact hcell) (fun k hz => by rw [hv] at hz; cases hz) (by rw [hvm]; exact ⟨_, hk0'⟩) (by rw [hvm]; exact ⟨_, hk5'⟩) (by rw [hvm, X.warmed.alike.assignable]; exact hasg)
    rw [hvm] at h9
    exact h9
  refine Steps.head hgo hwi ?_
  rw [stepThread_throwing (frames_entered hat.top _)]
  have hstep : (stepThrowing e ((T.setTop (F0 m pc ls rest)).pushFrame (.throwing q)) q (.java (F0 m pc ls rest) :: T.frames.tail)).1 = (((T.setTop (F0 m pc ls rest)).pushFrame (.throwing q)).setVm (T.vm.noted m.cls x.catchType (.cls c4))).setFrames (.java { F0 m pc ls rest with pc := x.handlerPc, stack := [.ref q] } :: T.frames.tail) := by
    simp only [stepThrowing, searchFrame, vmDo]
    generalize hr : Sem.go _ e false [] ((T.setTop (F0 m pc ls rest)).pushFrame (.throwing q)) = res
    obtain ⟨as, rfl, ha⟩ := Sem.eq_ok_of hr (a := Handler.found x.handlerPc) (s' := ((T.setTop (F0 m pc ls rest)).pushFrame (.throwing q)).setVm (T.vm.noted m.cls x.catchType (.cls c4))) (acts' := []) (by simp [hfind _ _ _ _])
    rfl
  rw [hstep]
  obtain ⟨g₀, hg⟩ := Option.isSome_iff_exists.mp hat.top
  obtain ⟨r, hr⟩ := State.topJava?_eq_some.mp hg
  have hr2 : (T.setVm (T.vm.noted m.cls x.catchType (.cls c4))).frames = .java g₀ :: r := hr
  rw [State.setTop_of_frames _ hr2] at a1
  rw [State.pushFrame, State.setTop_of_frames _ hr, State.setFrames_setFrames, hr]
  have hco : ∀ (F G : List Frame), ((T.setFrames F).setVm (T.vm.noted m.cls x.catchType (.cls c4))).setFrames G = (T.setVm (T.vm.noted m.cls x.catchType (.cls c4))).setFrames G := fun F G => by
    show ((T.setVm (T.vm.noted m.cls x.catchType (.cls c4))).setFrames F).setFrames G = _
    rw [State.setFrames_setFrames]
  rw [hco]
  exact a1
end XT
/-- the reference's own exception is thrown: its cell, and what else the world holds -/
abbrev xStop (q : Nat) : Nat × va_E := (q, .inr (8, [.null, .null, .null, .null, .null, .int 0, .int 1]))
def xY (D : va_G) (Ws : va_W) (A : Nat → Prop) : Addr → String → State → State → Prop := vx_X (fun _ : Unit => True) (fun q E _ t => E = RX8 ∧ va_P D vwCl (xStop q :: Ws) t.heap ∧ va_D A (xStop q :: Ws)) A
theorem x_cell {D : va_G} {C : Nat → ClassId} {ws : va_W} {H : Heap} {s : State} {q ci k : Nat} {fs : List Value} {r : vw_C} (hP : va_P D vwCl ws H) (hK : va_K D vwCl (xTY C) s) (hk : ws[k]? = some (q, .inr (ci, fs))) (hr : vwCl[ci]? = some r) : ∃ ce, H[q]? = some ce ∧ ce.vm = .none ∧ s.vm.findClass r.1 = some ce.cls := by
  obtain ⟨r2, h1, cell, h2, h3, h4, -⟩ := hP k _ hk
  exact ⟨cell, h2, h4, by rw [h3]; exact (hK.1 ci r hr).2.1⟩
theorem x_gs {C n d : String} {b0 : Nat} {A : Nat → Prop} {s : State} (h : vx_Zq C n d (xB b0) s s.heap) (hAb : ∀ q, A q → b0 ≤ q) : ∃ v : Value, v.isRef = true ∧ va_Z C n d v A s s.heap := by
  rcases va_Zq.narrow h.1 hAb with h | ⟨t, h⟩
  · exact ⟨.null, rfl, h⟩
  · exact ⟨.ref t, rfl, h⟩
