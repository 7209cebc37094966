/-! Z: walks over one world. The heap of the run is a function from addresses to objects; new cells come at the end. My own rows, over the kit's. -/
/-- launch, class tables, array classes (by number), the first own address -/
abbrev zG : Type := Launch × va_G × (Nat → ClassId) × Nat
/-- an array (its type's number, length, contents) or an object (its class's number, fields) -/
abbrev zOb : Type := (Nat × vp_A) ⊕ (Nat × List Value)
/-- the next address, and what lies where -/
abbrev zH : Type := Nat × (Nat → Option zOb)
/-- a method: own, code, locals, answer's type, room, name, what else holds at its start -/
abbrev zY : Type := String × ByteArray × Nat × Option FieldType × Room × String × (Array Value → State → Prop)
def zEnc (g : zG) (o : zOb) : va_E := match o with
  | .inl q => .inl (g.2.2.1 q.1, q.2)
  | .inr q => .inr q
def zAt (g : zG) (a : Nat) (o : zOb) (H : Heap) : Prop := va_at g.2.1 vwCl (a, zEnc g o) H
def zOk (g : zG) (h : zH) (H : Heap) : Prop := H.size = h.1 ∧ ∀ (a : Nat) (o : zOb), h.2 a = some o → g.2.2.2 ≤ a ∧ zAt g a o H
def zTys (g : zG) : List (ClassId × FieldType) := [(g.2.2.1 0, .int), (g.2.2.1 1, .long), (g.2.2.1 2, .double), (g.2.2.1 3, .boolean), (g.2.2.1 4, .object "LoggerTwins$Cells"), (g.2.2.1 5, .object "LoggerTwins$Records"), (g.2.2.1 6, .object "LoggerTwins$Patch"), (g.2.2.1 7, .array .int)]
/-- the tables' words (all that outlast a warming), the classes, the array classes, the two private constructors -/
def zK (g : zG) (U : State) : Prop := (∀ w, w ∈ lw_tbl → goodWord w = true → w.before #[] U = true) ∧ va_K g.2.1 vwCl (zTys g) U ∧ va_AO "LoggerTwins$Cells" U ∧ va_AO "LoggerTwins$Records" U ∧ va_AO "LoggerTwins$Patch" U ∧ va_Nw (.arrayOver (.array .int)) U ∧ va_Nw (.methodLinkNest RX9 32 yX0_init RX9) U ∧ va_Nw (.methodLinkNest RX9 9 yX8_init RX9) U
theorem zK.warm {g : zG} {s U : State} (hW : s.WarmedH U.vm) (h : zK g s) : zK g U :=
  ⟨fun w hw hg => word_at hW (good_of_word hg) (h.1 w hw hg), va_K.moved hW.alike h.2.1, h.2.2.1.moved hW.alike, h.2.2.2.1.moved hW.alike, h.2.2.2.2.1.moved hW.alike, arrayOver_alikeB hW.alike h.2.2.2.2.2.1, va_Nw.warmM hW h.2.2.2.2.2.2.1, va_Nw.warmM hW h.2.2.2.2.2.2.2⟩
theorem zK.word {g : zG} {s : State} {args : Array Value} {w : Cond} (h : zK g s) (hw : w ∈ lw_tbl) (hg : goodWord w = true) : w.before args s = true := word_at (U := s) (State.WarmedH.refl s) (good_of_word hg) (h.1 w hw hg)
/-- what a call's end says -/
def zQ (g : zG) (post : Option Value → zH → Prop) : Array Value → State → Outcome → State → Prop := fun _ st oc t => ∃ (v : Option Value) (h : zH), oc = .returned v ∧ post v h ∧ zOk g h t.heap ∧ va_F (fun q => g.2.2.2 ≤ q) st t
/-- a CONTRACT: from the world h, with these arguments, the method returns, and post holds of its answer and of the new world -/
def zM (g : zG) (y : MethodName) (cc : ByteArray) (maxL : Nat) (ret : Option FieldType) (rm : Room) (av : List Value) (h : zH) (post : Option Value → zH → Prop) : Prop :=
  Met g.1 y [.code y cc maxL ret] rm (va_Pc av (fun U => zOk g h U.heap ∧ zK g U ∧ g.2.2.2 ≤ U.heap.size)) (zQ g post) rm.cells rm.slots (fun q => g.2.2.2 ≤ q)
/-- what a walk has at hand -/
def zCx (g : zG) (Y : zY) (p : Program) (s : State) (m : MethodId) (args : Array Value) (meth : Method) (c : Code) : Prop :=
  p.tables.exec = Jvm.exec ∧ c.code = Y.2.1 ∧ c.maxLocals = Y.2.2.1 ∧ meth.sig.returnType = Y.2.2.2.1 ∧ s.vm.findClass Y.1 = some m.cls ∧ meth.locks = false ∧ meth.name = Y.2.2.2.2.2.1 ∧ zK g s ∧ g.2.2.2 ≤ s.heap.size ∧ Y.2.2.2.2.2.2 args s
/-- THE WALK's judgement: from this pc, these locals, this stack, this world the machine comes to a state with Q -/
def zZ (g : zG) (Y : zY) (Q : Array Value → List Frame → State → State → Prop) (pc : Nat) (lv : List (Nat × Value)) (st : List Value) (h : zH) (ce sl : Nat) : Prop :=
  ∀ (p : Program) (e : Env) (s : State) (m : MethodId) (args : Array Value) (below : List Frame) (meth : Method) (c : Code) (H : Heap) (locs : List Loc) (ls : Array Slot), zCx g Y p s m args meth c → zOk g h H → va_S (fun q => g.2.2.2 ≤ q) s.heap H locs → lv_has ls Y.2.2.1 lv →
    W p g.1 e Y.2.2.2.2.1 s m args below meth c H locs ce sl (Q args below s) (F0 m pc ls st)
/-- a method's own end -/
def zE (g : zG) (post : Option Value → zH → Prop) (mc ms : Nat) : Array Value → List Frame → State → State → Prop := fun args below s => MQ below (zQ g post) args s mc ms (fun q => g.2.2.2 ≤ q)
/-- a local, by its number -/
def zget : List (Nat × Value) → Nat → Option Value
  | [], _ => none
  | (j, v) :: t, i => cond (Nat.beq j i) (some v) (zget t i)
theorem zget_mem : ∀ {lv : List (Nat × Value)} {i : Nat} {v : Value}, zget lv i = some v → (i, v) ∈ lv
  | [], i, v, h => by cases h
  | (j, w) :: t, i, v, h => by
    unfold zget at h
    cases hb : Nat.beq j i with
    | true =>
      rw [hb] at h
      have e := Nat.eq_of_beq_eq_true hb
      cases h
      subst e
      exact List.mem_cons_self
    | false =>
      rw [hb] at h
      exact List.mem_cons_of_mem _ (zget_mem h)
theorem zget_at {ls : Array Slot} {nL : Nat} {lv : List (Nat × Value)} {i : Nat} {v : Value} (hl : lv_has ls nL lv) (h : zget lv i = some v) : ls[i]? = some (.val v) := hl.2.2 (i, v) (zget_mem h)
def zst1 (lv : List (Nat × Value)) (i : Nat) (v : Value) : List (Nat × Value) := (i, v) :: lv.filter (fun q => !(q.1 == i) && !(q.1 + 1 == i && q.2.category == 2))
def zst2 (lv : List (Nat × Value)) (i : Nat) (v : Value) : List (Nat × Value) := (i, v) :: lv.filter (fun q => !(q.1 == i) && (!(q.1 == i + 1) && !(q.1 + 1 == i && q.2.category == 2)))
/-- these locals stand in those -/
def zsub (lv : List (Nat × Value)) : List (Nat × Value) → Prop
  | [] => True
  | (i, v) :: t => zget lv i = some v ∧ zsub lv t
theorem zsub_has {ls : Array Slot} {nL : Nat} {lv : List (Nat × Value)} (hl : lv_has ls nL lv) : ∀ {lv' : List (Nat × Value)}, zsub lv lv' → lv_has ls nL lv'
  | [], _ => ⟨hl.1, hl.2.1, fun q h => by cases h⟩
  | (i, v) :: t, h => ⟨hl.1, hl.2.1, fun q hq => by
      rcases List.mem_cons.mp hq with e | e
      · subst e; exact zget_at hl h.1
      · exact (zsub_has hl h.2).2.2 q e⟩
theorem zOk.at {g : zG} {h : zH} {H : Heap} (hh : zOk g h H) {a : Nat} {o : zOb} (ho : h.2 a = some o) : va_P g.2.1 vwCl [(a, zEnc g o)] H := by
  intro k q hk
  cases k with
  | zero => cases hk; exact (hh.2 a o ho).2
  | succ k => cases hk
theorem zOk.set {g : zG} {h : zH} {H H1 : Heap} (hh : zOk g h H) {a : Nat} {o0 o : zOb} (ho : h.2 a = some o0) (he : zAt g a o H1) (hz : H1.size = H.size) (hq : ∀ q : Nat, q ≠ a → H1[q]? = H[q]?) : zOk g (h.1, va_up h.2 a (some o)) H1 := by
  refine ⟨hz.trans hh.1, fun b x hb => ?_⟩
  by_cases e : b = a
  · subst e
    have hb' : some o = some x := by simpa [va_up] using hb
    cases hb'
    exact ⟨(hh.2 _ _ ho).1, he⟩
  · have hb' : h.2 b = some x := by simpa [va_up, e] using hb
    exact ⟨(hh.2 _ _ hb').1, (hh.2 _ _ hb').2.kept (hq b e)⟩
theorem zOk.push {g : zG} {h : zH} {H H1 : Heap} (hh : zOk g h H) {o : zOb} (hlo : g.2.2.2 ≤ H.size) (he : zAt g h.1 o H1) (hz : H1.size = h.1 + 1) (hq : ∀ q : Nat, q < h.1 → H1[q]? = H[q]?) : zOk g (h.1 + 1, va_up h.2 h.1 (some o)) H1 := by
  refine ⟨hz, fun b x hb => ?_⟩
  by_cases e : b = h.1
  · subst e
    have hb' : some o = some x := by simpa [va_up] using hb
    cases hb'
    exact ⟨by rw [← hh.1]; exact hlo, he⟩
  · have hb' : h.2 b = some x := by simpa [va_up, e] using hb
    have hl : b < H.size := va_at.lt (hh.2 _ _ hb').2
    exact ⟨(hh.2 _ _ hb').1, (hh.2 _ _ hb').2.kept (hq b (by rw [← hh.1]; exact hl))⟩
theorem zS.push {A : Nat → Prop} {H0 H H1 : Heap} {locs : List Loc} {n : Nat} (hS : va_S A H0 H locs) (hn : H.size = n) (hz : H1.size = n + 1) (hq : ∀ q : Nat, q < n → H1[q]? = H[q]?) : va_S A H0 H1 locs :=
  ⟨Nat.le_trans hS.1 (by omega), fun q h1 h2 => (hq q (by have := hS.1; omega)).trans (hS.2.1 q h1 h2), hS.2.2⟩
section ZZ
variable {g : zG} {Y : zY} {Q : Array Value → List Frame → State → State → Prop} {pc pc0 : Nat} {lv : List (Nat × Value)} {st : List Value} {h : zH} {ce sl : Nat}
/-- fewer locals, in any order -/
theorem z_lv (lv' : List (Nat × Value)) (hs : zsub lv lv') (k : zZ g Y Q pc lv' st h ce sl) : zZ g Y Q pc lv st h ce sl :=
  fun p e s m args below meth c H locs ls C hO hS hl => k p e s m args below meth c H locs ls C hO hS (zsub_has hl hs)
theorem z_widen {ce' sl' : Nat} (h1 : ce ≤ ce') (h2 : sl ≤ sl') (k : zZ g Y Q pc lv st h ce' sl') : zZ g Y Q pc lv st h ce sl :=
  fun p e s m args below meth c H locs ls C hO hS hl => W.widen h1 h2 (k p e s m args below meth c H locs ls C hO hS hl)

theorem z_iconst {n : Int} {v : Int32} (hd : decode Y.2.1 pc = .ok (.iconst n, 1)) (hp : pc0 = pc) (hv : Int32.ofInt n = v) (k : zZ g Y Q (pc + 1) lv (.int v :: st) h ce sl) : zZ g Y Q pc0 lv (st) h ce sl := by
  subst hp
  intro p e s m args below meth c H locs ls C hO hS hl
  exact lv_iconst C.1 C.2.1 hd hv (k p e s m args below meth c H locs ls C hO hS hl)
theorem z_bipush {n : Int} {v : Int32} (hd : decode Y.2.1 pc = .ok (.bipush n, 2)) (hp : pc0 = pc) (hv : (Int8.ofInt n).toInt32 = v) (k : zZ g Y Q (pc + 2) lv (.int v :: st) h ce sl) : zZ g Y Q pc0 lv (st) h ce sl := by
  subst hp
  intro p e s m args below meth c H locs ls C hO hS hl
  exact lv_bipush C.1 C.2.1 hd hv (k p e s m args below meth c H locs ls C hO hS hl)
theorem z_sipush {n : Int} {v : Int32} (hd : decode Y.2.1 pc = .ok (.sipush n, 3)) (hp : pc0 = pc) (hv : (Int16.ofInt n).toInt32 = v) (k : zZ g Y Q (pc + 3) lv (.int v :: st) h ce sl) : zZ g Y Q pc0 lv (st) h ce sl := by
  subst hp
  intro p e s m args below meth c H locs ls C hO hS hl
  exact lv_sipush C.1 C.2.1 hd hv (k p e s m args below meth c H locs ls C hO hS hl)
theorem z_lconst {n : Fin 2} {v : Int64} (hd : decode Y.2.1 pc = .ok (.lconst n, 1)) (hp : pc0 = pc) (hv : Int64.ofNat (n : Nat) = v) (k : zZ g Y Q (pc + 1) lv (.long v :: st) h ce sl) : zZ g Y Q pc0 lv (st) h ce sl := by
  subst hp
  intro p e s m args below meth c H locs ls C hO hS hl
  exact lv_lconst C.1 C.2.1 hd hv (k p e s m args below meth c H locs ls C hO hS hl)
theorem z_fconst0 (hd : decode Y.2.1 pc = .ok (.fconst 0, 1)) (hp : pc0 = pc) (k : zZ g Y Q (pc + 1) lv (.float FP.fconst0 :: st) h ce sl) : zZ g Y Q pc0 lv (st) h ce sl := by
  subst hp
  intro p e s m args below meth c H locs ls C hO hS hl
  exact lv_fconst0 C.1 C.2.1 hd (k p e s m args below meth c H locs ls C hO hS hl)
theorem z_fconst1 (hd : decode Y.2.1 pc = .ok (.fconst 1, 1)) (hp : pc0 = pc) (k : zZ g Y Q (pc + 1) lv (.float FP.fconst1 :: st) h ce sl) : zZ g Y Q pc0 lv (st) h ce sl := by
  subst hp
  intro p e s m args below meth c H locs ls C hO hS hl
  exact lv_fconst1 C.1 C.2.1 hd (k p e s m args below meth c H locs ls C hO hS hl)
theorem z_fconst2 (hd : decode Y.2.1 pc = .ok (.fconst 2, 1)) (hp : pc0 = pc) (k : zZ g Y Q (pc + 1) lv (.float FP.fconst2 :: st) h ce sl) : zZ g Y Q pc0 lv (st) h ce sl := by
  subst hp
  intro p e s m args below meth c H locs ls C hO hS hl
  exact lv_fconst2 C.1 C.2.1 hd (k p e s m args below meth c H locs ls C hO hS hl)
theorem z_dconst0 (hd : decode Y.2.1 pc = .ok (.dconst 0, 1)) (hp : pc0 = pc) (k : zZ g Y Q (pc + 1) lv (.double FP.dconst0 :: st) h ce sl) : zZ g Y Q pc0 lv (st) h ce sl := by
  subst hp
  intro p e s m args below meth c H locs ls C hO hS hl
  exact lv_dconst0 C.1 C.2.1 hd (k p e s m args below meth c H locs ls C hO hS hl)
theorem z_dconst1 (hd : decode Y.2.1 pc = .ok (.dconst 1, 1)) (hp : pc0 = pc) (k : zZ g Y Q (pc + 1) lv (.double FP.dconst1 :: st) h ce sl) : zZ g Y Q pc0 lv (st) h ce sl := by
  subst hp
  intro p e s m args below meth c H locs ls C hO hS hl
  exact lv_dconst1 C.1 C.2.1 hd (k p e s m args below meth c H locs ls C hO hS hl)
theorem z_null (hd : decode Y.2.1 pc = .ok (.aconst_null, 1)) (hp : pc0 = pc) (k : zZ g Y Q (pc + 1) lv (.null :: st) h ce sl) : zZ g Y Q pc0 lv (st) h ce sl := by
  subst hp
  intro p e s m args below meth c H locs ls C hO hS hl
  exact lv_null C.1 C.2.1 hd (k p e s m args below meth c H locs ls C hO hS hl)
theorem z_iload_n {i : Fin 4} {x : Int32} (hd : decode Y.2.1 pc = .ok (.iload_n i, 1)) (hp : pc0 = pc) (hg : zget lv i = some (.int x)) (k : zZ g Y Q (pc + 1) lv (.int x :: st) h ce sl) : zZ g Y Q pc0 lv (st) h ce sl := by
  subst hp
  intro p e s m args below meth c H locs ls C hO hS hl
  exact lv_iload_n C.1 C.2.1 hd rfl (zget_at hl hg) (k p e s m args below meth c H locs ls C hO hS hl)
theorem z_iload {i : Nat} {x : Int32} (hd : decode Y.2.1 pc = .ok (.iload i, 2)) (hp : pc0 = pc) (hg : zget lv i = some (.int x)) (k : zZ g Y Q (pc + 2) lv (.int x :: st) h ce sl) : zZ g Y Q pc0 lv (st) h ce sl := by
  subst hp
  intro p e s m args below meth c H locs ls C hO hS hl
  exact lv_iload C.1 C.2.1 hd (zget_at hl hg) (k p e s m args below meth c H locs ls C hO hS hl)
theorem z_lload_n {i : Fin 4} {x : Int64} (hd : decode Y.2.1 pc = .ok (.lload_n i, 1)) (hp : pc0 = pc) (hg : zget lv i = some (.long x)) (k : zZ g Y Q (pc + 1) lv (.long x :: st) h ce sl) : zZ g Y Q pc0 lv (st) h ce sl := by
  subst hp
  intro p e s m args below meth c H locs ls C hO hS hl
  exact lv_lload_n C.1 C.2.1 hd rfl (zget_at hl hg) (k p e s m args below meth c H locs ls C hO hS hl)
theorem z_lload {i : Nat} {x : Int64} (hd : decode Y.2.1 pc = .ok (.lload i, 2)) (hp : pc0 = pc) (hg : zget lv i = some (.long x)) (k : zZ g Y Q (pc + 2) lv (.long x :: st) h ce sl) : zZ g Y Q pc0 lv (st) h ce sl := by
  subst hp
  intro p e s m args below meth c H locs ls C hO hS hl
  exact lv_lload C.1 C.2.1 hd (zget_at hl hg) (k p e s m args below meth c H locs ls C hO hS hl)
theorem z_fload_n {i : Fin 4} {x : UInt32} (hd : decode Y.2.1 pc = .ok (.fload_n i, 1)) (hp : pc0 = pc) (hg : zget lv i = some (.float x)) (k : zZ g Y Q (pc + 1) lv (.float x :: st) h ce sl) : zZ g Y Q pc0 lv (st) h ce sl := by
  subst hp
  intro p e s m args below meth c H locs ls C hO hS hl
  exact lv_fload_n C.1 C.2.1 hd rfl (zget_at hl hg) (k p e s m args below meth c H locs ls C hO hS hl)
theorem z_fload {i : Nat} {x : UInt32} (hd : decode Y.2.1 pc = .ok (.fload i, 2)) (hp : pc0 = pc) (hg : zget lv i = some (.float x)) (k : zZ g Y Q (pc + 2) lv (.float x :: st) h ce sl) : zZ g Y Q pc0 lv (st) h ce sl := by
  subst hp
  intro p e s m args below meth c H locs ls C hO hS hl
  exact lv_fload C.1 C.2.1 hd (zget_at hl hg) (k p e s m args below meth c H locs ls C hO hS hl)
theorem z_dload_n {i : Fin 4} {x : UInt64} (hd : decode Y.2.1 pc = .ok (.dload_n i, 1)) (hp : pc0 = pc) (hg : zget lv i = some (.double x)) (k : zZ g Y Q (pc + 1) lv (.double x :: st) h ce sl) : zZ g Y Q pc0 lv (st) h ce sl := by
  subst hp
  intro p e s m args below meth c H locs ls C hO hS hl
  exact lv_dload_n C.1 C.2.1 hd rfl (zget_at hl hg) (k p e s m args below meth c H locs ls C hO hS hl)
theorem z_dload {i : Nat} {x : UInt64} (hd : decode Y.2.1 pc = .ok (.dload i, 2)) (hp : pc0 = pc) (hg : zget lv i = some (.double x)) (k : zZ g Y Q (pc + 2) lv (.double x :: st) h ce sl) : zZ g Y Q pc0 lv (st) h ce sl := by
  subst hp
  intro p e s m args below meth c H locs ls C hO hS hl
  exact lv_dload C.1 C.2.1 hd (zget_at hl hg) (k p e s m args below meth c H locs ls C hO hS hl)
theorem z_aload_n {i : Fin 4} {x : Nat} (hd : decode Y.2.1 pc = .ok (.aload_n i, 1)) (hp : pc0 = pc) (hg : zget lv i = some (.ref x)) (k : zZ g Y Q (pc + 1) lv (.ref x :: st) h ce sl) : zZ g Y Q pc0 lv (st) h ce sl := by
  subst hp
  intro p e s m args below meth c H locs ls C hO hS hl
  exact lv_aload_n C.1 C.2.1 hd rfl (zget_at hl hg) (k p e s m args below meth c H locs ls C hO hS hl)
theorem z_aload {i : Nat} {x : Nat} (hd : decode Y.2.1 pc = .ok (.aload i, 2)) (hp : pc0 = pc) (hg : zget lv i = some (.ref x)) (k : zZ g Y Q (pc + 2) lv (.ref x :: st) h ce sl) : zZ g Y Q pc0 lv (st) h ce sl := by
  subst hp
  intro p e s m args below meth c H locs ls C hO hS hl
  exact lv_aload C.1 C.2.1 hd (zget_at hl hg) (k p e s m args below meth c H locs ls C hO hS hl)
theorem z_aload_nN {i : Fin 4} (hd : decode Y.2.1 pc = .ok (.aload_n i, 1)) (hp : pc0 = pc) (hg : zget lv i = some .null) (k : zZ g Y Q (pc + 1) lv (.null :: st) h ce sl) : zZ g Y Q pc0 lv (st) h ce sl := by
  subst hp
  intro p e s m args below meth c H locs ls C hO hS hl
  exact lv_aload_nN C.1 C.2.1 hd rfl (zget_at hl hg) (k p e s m args below meth c H locs ls C hO hS hl)
theorem z_aloadN {i : Nat} (hd : decode Y.2.1 pc = .ok (.aload i, 2)) (hp : pc0 = pc) (hg : zget lv i = some .null) (k : zZ g Y Q (pc + 2) lv (.null :: st) h ce sl) : zZ g Y Q pc0 lv (st) h ce sl := by
  subst hp
  intro p e s m args below meth c H locs ls C hO hS hl
  exact lv_aloadN C.1 C.2.1 hd (zget_at hl hg) (k p e s m args below meth c H locs ls C hO hS hl)
theorem z_istore_n {i : Fin 4} {x : Int32} (hd : decode Y.2.1 pc = .ok (.istore_n i, 1)) (hp : pc0 = pc) (hn : (i : Nat) < Y.2.2.1) (k : zZ g Y Q (pc + 1) (zst1 lv i (.int x)) st h ce sl) : zZ g Y Q pc0 lv ((.int x) :: st) h ce sl := by
  subst hp
  intro p e s m args below meth c H locs ls C hO hS hl
  exact lv_istore_n C.1 C.2.1 hd rfl hl hn rfl (fun ls' hl' => k p e s m args below meth c H locs ls' C hO hS hl')
theorem z_istore {i : Nat} {x : Int32} (hd : decode Y.2.1 pc = .ok (.istore i, 2)) (hp : pc0 = pc) (hn : (i : Nat) < Y.2.2.1) (k : zZ g Y Q (pc + 2) (zst1 lv i (.int x)) st h ce sl) : zZ g Y Q pc0 lv ((.int x) :: st) h ce sl := by
  subst hp
  intro p e s m args below meth c H locs ls C hO hS hl
  exact lv_istore C.1 C.2.1 hd hl hn rfl (fun ls' hl' => k p e s m args below meth c H locs ls' C hO hS hl')
theorem z_lstore_n {i : Fin 4} {x : Int64} (hd : decode Y.2.1 pc = .ok (.lstore_n i, 1)) (hp : pc0 = pc) (hn : (i : Nat) + 1 < Y.2.2.1) (k : zZ g Y Q (pc + 1) (zst2 lv i (.long x)) st h ce sl) : zZ g Y Q pc0 lv ((.long x) :: st) h ce sl := by
  subst hp
  intro p e s m args below meth c H locs ls C hO hS hl
  exact lv_lstore_n C.1 C.2.1 hd rfl hl hn rfl (fun ls' hl' => k p e s m args below meth c H locs ls' C hO hS hl')
theorem z_lstore {i : Nat} {x : Int64} (hd : decode Y.2.1 pc = .ok (.lstore i, 2)) (hp : pc0 = pc) (hn : (i : Nat) + 1 < Y.2.2.1) (k : zZ g Y Q (pc + 2) (zst2 lv i (.long x)) st h ce sl) : zZ g Y Q pc0 lv ((.long x) :: st) h ce sl := by
  subst hp
  intro p e s m args below meth c H locs ls C hO hS hl
  exact lv_lstore C.1 C.2.1 hd hl hn rfl (fun ls' hl' => k p e s m args below meth c H locs ls' C hO hS hl')
theorem z_fstore_n {i : Fin 4} {x : UInt32} (hd : decode Y.2.1 pc = .ok (.fstore_n i, 1)) (hp : pc0 = pc) (hn : (i : Nat) < Y.2.2.1) (k : zZ g Y Q (pc + 1) (zst1 lv i (.float x)) st h ce sl) : zZ g Y Q pc0 lv ((.float x) :: st) h ce sl := by
  subst hp
  intro p e s m args below meth c H locs ls C hO hS hl
  exact lv_fstore_n C.1 C.2.1 hd rfl hl hn rfl (fun ls' hl' => k p e s m args below meth c H locs ls' C hO hS hl')
theorem z_fstore {i : Nat} {x : UInt32} (hd : decode Y.2.1 pc = .ok (.fstore i, 2)) (hp : pc0 = pc) (hn : (i : Nat) < Y.2.2.1) (k : zZ g Y Q (pc + 2) (zst1 lv i (.float x)) st h ce sl) : zZ g Y Q pc0 lv ((.float x) :: st) h ce sl := by
  subst hp
  intro p e s m args below meth c H locs ls C hO hS hl
  exact lv_fstore C.1 C.2.1 hd hl hn rfl (fun ls' hl' => k p e s m args below meth c H locs ls' C hO hS hl')
theorem z_dstore_n {i : Fin 4} {x : UInt64} (hd : decode Y.2.1 pc = .ok (.dstore_n i, 1)) (hp : pc0 = pc) (hn : (i : Nat) + 1 < Y.2.2.1) (k : zZ g Y Q (pc + 1) (zst2 lv i (.double x)) st h ce sl) : zZ g Y Q pc0 lv ((.double x) :: st) h ce sl := by
  subst hp
  intro p e s m args below meth c H locs ls C hO hS hl
  exact lv_dstore_n C.1 C.2.1 hd rfl hl hn rfl (fun ls' hl' => k p e s m args below meth c H locs ls' C hO hS hl')
theorem z_dstore {i : Nat} {x : UInt64} (hd : decode Y.2.1 pc = .ok (.dstore i, 2)) (hp : pc0 = pc) (hn : (i : Nat) + 1 < Y.2.2.1) (k : zZ g Y Q (pc + 2) (zst2 lv i (.double x)) st h ce sl) : zZ g Y Q pc0 lv ((.double x) :: st) h ce sl := by
  subst hp
  intro p e s m args below meth c H locs ls C hO hS hl
  exact lv_dstore C.1 C.2.1 hd hl hn rfl (fun ls' hl' => k p e s m args below meth c H locs ls' C hO hS hl')
theorem z_astore_n {i : Fin 4} {x : Nat} (hd : decode Y.2.1 pc = .ok (.astore_n i, 1)) (hp : pc0 = pc) (hn : (i : Nat) < Y.2.2.1) (k : zZ g Y Q (pc + 1) (zst1 lv i (.ref x)) st h ce sl) : zZ g Y Q pc0 lv ((.ref x) :: st) h ce sl := by
  subst hp
  intro p e s m args below meth c H locs ls C hO hS hl
  exact lv_astore_n C.1 C.2.1 hd rfl hl hn rfl (fun ls' hl' => k p e s m args below meth c H locs ls' C hO hS hl')
theorem z_astore {i : Nat} {x : Nat} (hd : decode Y.2.1 pc = .ok (.astore i, 2)) (hp : pc0 = pc) (hn : (i : Nat) < Y.2.2.1) (k : zZ g Y Q (pc + 2) (zst1 lv i (.ref x)) st h ce sl) : zZ g Y Q pc0 lv ((.ref x) :: st) h ce sl := by
  subst hp
  intro p e s m args below meth c H locs ls C hO hS hl
  exact lv_astore C.1 C.2.1 hd hl hn rfl (fun ls' hl' => k p e s m args below meth c H locs ls' C hO hS hl')
theorem z_astore_nN {i : Fin 4} (hd : decode Y.2.1 pc = .ok (.astore_n i, 1)) (hp : pc0 = pc) (hn : (i : Nat) < Y.2.2.1) (k : zZ g Y Q (pc + 1) (zst1 lv i .null) st h ce sl) : zZ g Y Q pc0 lv (.null :: st) h ce sl := by
  subst hp
  intro p e s m args below meth c H locs ls C hO hS hl
  exact lv_astore_nN C.1 C.2.1 hd rfl hl hn rfl (fun ls' hl' => k p e s m args below meth c H locs ls' C hO hS hl')
theorem z_astoreN {i : Nat} (hd : decode Y.2.1 pc = .ok (.astore i, 2)) (hp : pc0 = pc) (hn : (i : Nat) < Y.2.2.1) (k : zZ g Y Q (pc + 2) (zst1 lv i .null) st h ce sl) : zZ g Y Q pc0 lv (.null :: st) h ce sl := by
  subst hp
  intro p e s m args below meth c H locs ls C hO hS hl
  exact lv_astoreN C.1 C.2.1 hd hl hn rfl (fun ls' hl' => k p e s m args below meth c H locs ls' C hO hS hl')
theorem zget_pos : ∀ {lv : List (Nat × Value)} {i : Nat} {v : Value}, zget lv i = some v → ∃ k : Nat, lv[k]? = some (i, v) := fun h => List.getElem?_of_mem (zget_mem h)
theorem z_iinc {i : Nat} {n : Int} {x v : Int32} (hd : decode Y.2.1 pc = .ok (.iinc i n, 3)) (hp : pc0 = pc) (hg : zget lv i = some (.int x)) (hv : x + Int32.ofInt n = v) (hn : i < Y.2.2.1) (k : zZ g Y Q (pc + 3) (zst1 lv i (.int v)) st h ce sl) : zZ g Y Q pc0 lv st h ce sl := by
  subst hp
  intro p e s m args below meth c H locs ls C hO hS hl
  obtain ⟨j, hj⟩ := zget_pos hg
  exact lv_iinc C.1 C.2.1 hd hl (k := j) hj hv hn rfl (fun ls' hl' => k p e s m args below meth c H locs ls' C hO hS hl')
theorem z_iadd {x y : Int32} (hd : decode Y.2.1 pc = .ok (.iadd, 1)) (hp : pc0 = pc) (k : zZ g Y Q (pc + 1) lv (.int (x + y) :: st) h ce sl) : zZ g Y Q pc0 lv (.int y :: .int x :: st) h ce sl := by
  subst hp
  intro p e s m args below meth c H locs ls C hO hS hl
  exact lv_iadd C.1 C.2.1 hd (k p e s m args below meth c H locs ls C hO hS hl)
theorem z_isub {x y : Int32} (hd : decode Y.2.1 pc = .ok (.isub, 1)) (hp : pc0 = pc) (k : zZ g Y Q (pc + 1) lv (.int (x - y) :: st) h ce sl) : zZ g Y Q pc0 lv (.int y :: .int x :: st) h ce sl := by
  subst hp
  intro p e s m args below meth c H locs ls C hO hS hl
  exact lv_isub C.1 C.2.1 hd (k p e s m args below meth c H locs ls C hO hS hl)
theorem z_imul {x y : Int32} (hd : decode Y.2.1 pc = .ok (.imul, 1)) (hp : pc0 = pc) (k : zZ g Y Q (pc + 1) lv (.int (x * y) :: st) h ce sl) : zZ g Y Q pc0 lv (.int y :: .int x :: st) h ce sl := by
  subst hp
  intro p e s m args below meth c H locs ls C hO hS hl
  exact lv_imul C.1 C.2.1 hd (k p e s m args below meth c H locs ls C hO hS hl)
theorem z_iand {x y : Int32} (hd : decode Y.2.1 pc = .ok (.iand, 1)) (hp : pc0 = pc) (k : zZ g Y Q (pc + 1) lv (.int (x &&& y) :: st) h ce sl) : zZ g Y Q pc0 lv (.int y :: .int x :: st) h ce sl := by
  subst hp
  intro p e s m args below meth c H locs ls C hO hS hl
  exact lv_iand C.1 C.2.1 hd (k p e s m args below meth c H locs ls C hO hS hl)
theorem z_idiv {x y : Int32} (hd : decode Y.2.1 pc = .ok (.idiv, 1)) (hp : pc0 = pc) (hne : ¬ y = 0) (k : zZ g Y Q (pc + 1) lv (.int (x / y) :: st) h ce sl) : zZ g Y Q pc0 lv (.int y :: .int x :: st) h ce sl := by
  subst hp
  intro p e s m args below meth c H locs ls C hO hS hl
  exact lv_idiv C.1 C.2.1 hd hne (k p e s m args below meth c H locs ls C hO hS hl)
theorem z_irem {x y : Int32} (hd : decode Y.2.1 pc = .ok (.irem, 1)) (hp : pc0 = pc) (hne : ¬ y = 0) (k : zZ g Y Q (pc + 1) lv (.int (x - x / y * y) :: st) h ce sl) : zZ g Y Q pc0 lv (.int y :: .int x :: st) h ce sl := by
  subst hp
  intro p e s m args below meth c H locs ls C hO hS hl
  exact lv_irem C.1 C.2.1 hd hne (k p e s m args below meth c H locs ls C hO hS hl)
theorem z_ineg {x : Int32} (hd : decode Y.2.1 pc = .ok (.ineg, 1)) (hp : pc0 = pc) (k : zZ g Y Q (pc + 1) lv (.int (-x) :: st) h ce sl) : zZ g Y Q pc0 lv (.int x :: st) h ce sl := by
  subst hp
  intro p e s m args below meth c H locs ls C hO hS hl
  exact lv_ineg C.1 C.2.1 hd (k p e s m args below meth c H locs ls C hO hS hl)
theorem z_ishr {x y : Int32} (hd : decode Y.2.1 pc = .ok (.ishr, 1)) (hp : pc0 = pc) (k : zZ g Y Q (pc + 1) lv (.int (x >>> (y &&& 31)) :: st) h ce sl) : zZ g Y Q pc0 lv (.int y :: .int x :: st) h ce sl := by
  subst hp
  intro p e s m args below meth c H locs ls C hO hS hl
  exact lv_ishr C.1 C.2.1 hd (k p e s m args below meth c H locs ls C hO hS hl)
theorem z_ladd {x y : Int64} (hd : decode Y.2.1 pc = .ok (.ladd, 1)) (hp : pc0 = pc) (k : zZ g Y Q (pc + 1) lv (.long (x + y) :: st) h ce sl) : zZ g Y Q pc0 lv (.long y :: .long x :: st) h ce sl := by
  subst hp
  intro p e s m args below meth c H locs ls C hO hS hl
  exact lv_ladd C.1 C.2.1 hd (k p e s m args below meth c H locs ls C hO hS hl)
theorem z_lsub {x y : Int64} (hd : decode Y.2.1 pc = .ok (.lsub, 1)) (hp : pc0 = pc) (k : zZ g Y Q (pc + 1) lv (.long (x - y) :: st) h ce sl) : zZ g Y Q pc0 lv (.long y :: .long x :: st) h ce sl := by
  subst hp
  intro p e s m args below meth c H locs ls C hO hS hl
  exact lv_lsub C.1 C.2.1 hd (k p e s m args below meth c H locs ls C hO hS hl)
theorem z_lmul {x y : Int64} (hd : decode Y.2.1 pc = .ok (.lmul, 1)) (hp : pc0 = pc) (k : zZ g Y Q (pc + 1) lv (.long (x * y) :: st) h ce sl) : zZ g Y Q pc0 lv (.long y :: .long x :: st) h ce sl := by
  subst hp
  intro p e s m args below meth c H locs ls C hO hS hl
  exact lv_lmul C.1 C.2.1 hd (k p e s m args below meth c H locs ls C hO hS hl)
theorem z_land {x y : Int64} (hd : decode Y.2.1 pc = .ok (.land, 1)) (hp : pc0 = pc) (k : zZ g Y Q (pc + 1) lv (.long (x &&& y) :: st) h ce sl) : zZ g Y Q pc0 lv (.long y :: .long x :: st) h ce sl := by
  subst hp
  intro p e s m args below meth c H locs ls C hO hS hl
  exact lv_land C.1 C.2.1 hd (k p e s m args below meth c H locs ls C hO hS hl)
theorem z_lxor {x y : Int64} (hd : decode Y.2.1 pc = .ok (.lxor, 1)) (hp : pc0 = pc) (k : zZ g Y Q (pc + 1) lv (.long (x ^^^ y) :: st) h ce sl) : zZ g Y Q pc0 lv (.long y :: .long x :: st) h ce sl := by
  subst hp
  intro p e s m args below meth c H locs ls C hO hS hl
  exact lv_lxor C.1 C.2.1 hd (k p e s m args below meth c H locs ls C hO hS hl)
theorem z_lrem {x y : Int64} (hd : decode Y.2.1 pc = .ok (.lrem, 1)) (hp : pc0 = pc) (hne : ¬ y = 0) (k : zZ g Y Q (pc + 1) lv (.long (x - x / y * y) :: st) h ce sl) : zZ g Y Q pc0 lv (.long y :: .long x :: st) h ce sl := by
  subst hp
  intro p e s m args below meth c H locs ls C hO hS hl
  exact lv_lrem C.1 C.2.1 hd hne (k p e s m args below meth c H locs ls C hO hS hl)
theorem z_lshl {x : Int64} {y : Int32} (hd : decode Y.2.1 pc = .ok (.lshl, 1)) (hp : pc0 = pc) (k : zZ g Y Q (pc + 1) lv (.long (x <<< (y.toInt64 &&& 63)) :: st) h ce sl) : zZ g Y Q pc0 lv (.int y :: .long x :: st) h ce sl := by
  subst hp
  intro p e s m args below meth c H locs ls C hO hS hl
  exact lv_lshl C.1 C.2.1 hd rfl (k p e s m args below meth c H locs ls C hO hS hl)
theorem z_lshr {x : Int64} {y : Int32} (hd : decode Y.2.1 pc = .ok (.lshr, 1)) (hp : pc0 = pc) (k : zZ g Y Q (pc + 1) lv (.long (x >>> (y.toInt64 &&& 63)) :: st) h ce sl) : zZ g Y Q pc0 lv (.int y :: .long x :: st) h ce sl := by
  subst hp
  intro p e s m args below meth c H locs ls C hO hS hl
  exact lv_lshr C.1 C.2.1 hd rfl (k p e s m args below meth c H locs ls C hO hS hl)
theorem z_i2l {x : Int32} (hd : decode Y.2.1 pc = .ok (.i2l, 1)) (hp : pc0 = pc) (k : zZ g Y Q (pc + 1) lv (.long x.toInt64 :: st) h ce sl) : zZ g Y Q pc0 lv (.int x :: st) h ce sl := by
  subst hp
  intro p e s m args below meth c H locs ls C hO hS hl
  exact lv_i2l C.1 C.2.1 hd rfl (k p e s m args below meth c H locs ls C hO hS hl)
theorem z_l2i {x : Int64} (hd : decode Y.2.1 pc = .ok (.l2i, 1)) (hp : pc0 = pc) (k : zZ g Y Q (pc + 1) lv (.int x.toInt32 :: st) h ce sl) : zZ g Y Q pc0 lv (.long x :: st) h ce sl := by
  subst hp
  intro p e s m args below meth c H locs ls C hO hS hl
  exact lv_l2i C.1 C.2.1 hd rfl (k p e s m args below meth c H locs ls C hO hS hl)
theorem z_i2b {x : Int32} (hd : decode Y.2.1 pc = .ok (.i2b, 1)) (hp : pc0 = pc) (k : zZ g Y Q (pc + 1) lv (.int x.toInt8.toInt32 :: st) h ce sl) : zZ g Y Q pc0 lv (.int x :: st) h ce sl := by
  subst hp
  intro p e s m args below meth c H locs ls C hO hS hl
  exact lv_i2b C.1 C.2.1 hd rfl (k p e s m args below meth c H locs ls C hO hS hl)
theorem z_i2s {x : Int32} (hd : decode Y.2.1 pc = .ok (.i2s, 1)) (hp : pc0 = pc) (k : zZ g Y Q (pc + 1) lv (.int x.toInt16.toInt32 :: st) h ce sl) : zZ g Y Q pc0 lv (.int x :: st) h ce sl := by
  subst hp
  intro p e s m args below meth c H locs ls C hO hS hl
  exact lv_i2s C.1 C.2.1 hd rfl (k p e s m args below meth c H locs ls C hO hS hl)
theorem z_i2c {x : Int32} (hd : decode Y.2.1 pc = .ok (.i2c, 1)) (hp : pc0 = pc) (k : zZ g Y Q (pc + 1) lv (.int (x.toUInt32 % 65536).toInt32 :: st) h ce sl) : zZ g Y Q pc0 lv (.int x :: st) h ce sl := by
  subst hp
  intro p e s m args below meth c H locs ls C hO hS hl
  exact lv_i2c C.1 C.2.1 hd rfl (k p e s m args below meth c H locs ls C hO hS hl)
theorem z_lcmp {x y : Int64} (hd : decode Y.2.1 pc = .ok (.lcmp, 1)) (hp : pc0 = pc) (k : zZ g Y Q (pc + 1) lv (.int (lg_cmp x y) :: st) h ce sl) : zZ g Y Q pc0 lv (.long y :: .long x :: st) h ce sl := by
  subst hp
  intro p e s m args below meth c H locs ls C hO hS hl
  exact W.lcmp C.1 C.2.1 hd (k p e s m args below meth c H locs ls C hO hS hl)
theorem z_dup {va : Value} (hd : decode Y.2.1 pc = .ok (.dup, 1)) (hp : pc0 = pc) (hc : va.category = 1) (k : zZ g Y Q (pc + 1) lv (va :: va :: st) h ce sl) : zZ g Y Q pc0 lv (va :: st) h ce sl := by
  subst hp
  intro p e s m args below meth c H locs ls C hO hS hl
  exact lv_dup C.1 C.2.1 hd hc (k p e s m args below meth c H locs ls C hO hS hl)
theorem z_dup2 {va vb : Value} (hd : decode Y.2.1 pc = .ok (.dup2, 1)) (hp : pc0 = pc) (hc : va.category = 1) (hc2 : vb.category = 1) (k : zZ g Y Q (pc + 1) lv (va :: vb :: va :: vb :: st) h ce sl) : zZ g Y Q pc0 lv (va :: vb :: st) h ce sl := by
  subst hp
  intro p e s m args below meth c H locs ls C hO hS hl
  exact lv_dup2_11 C.1 C.2.1 hd hc hc2 (k p e s m args below meth c H locs ls C hO hS hl)
theorem z_fadd {x y : UInt32} (hd : decode Y.2.1 pc = .ok (.fadd, 1)) (hp : pc0 = pc) (hne : vf_n32 (FP.fadd x y)) (k : zZ g Y Q (pc + 1) lv (.float (FP.fadd x y) :: st) h ce sl) : zZ g Y Q pc0 lv (.float y :: .float x :: st) h ce sl := by
  subst hp
  intro p e s m args below meth c H locs ls C hO hS hl
  exact lv_fadd C.1 C.2.1 hd hne (k p e s m args below meth c H locs ls C hO hS hl)
theorem z_fmul {x y : UInt32} (hd : decode Y.2.1 pc = .ok (.fmul, 1)) (hp : pc0 = pc) (hne : vf_n32 (FP.fmul x y)) (k : zZ g Y Q (pc + 1) lv (.float (FP.fmul x y) :: st) h ce sl) : zZ g Y Q pc0 lv (.float y :: .float x :: st) h ce sl := by
  subst hp
  intro p e s m args below meth c H locs ls C hO hS hl
  exact lv_fmul C.1 C.2.1 hd hne (k p e s m args below meth c H locs ls C hO hS hl)
theorem z_fcmp {x y : UInt32} {op : CmpOp} (hd : decode Y.2.1 pc = .ok (.fcmp op, 1)) (hp : pc0 = pc) (k : zZ g Y Q (pc + 1) lv (.int (Op.cmpValue (FP.fcmp x y) op) :: st) h ce sl) : zZ g Y Q pc0 lv (.float y :: .float x :: st) h ce sl := by
  subst hp
  intro p e s m args below meth c H locs ls C hO hS hl
  exact lv_fcmp C.1 C.2.1 hd (k p e s m args below meth c H locs ls C hO hS hl)
theorem z_i2f {x : Int32} (hd : decode Y.2.1 pc = .ok (.i2f, 1)) (hp : pc0 = pc) (k : zZ g Y Q (pc + 1) lv (.float (FP.i2f x) :: st) h ce sl) : zZ g Y Q pc0 lv (.int x :: st) h ce sl := by
  subst hp
  intro p e s m args below meth c H locs ls C hO hS hl
  exact lv_i2f C.1 C.2.1 hd (k p e s m args below meth c H locs ls C hO hS hl)
theorem z_l2f {x : Int64} (hd : decode Y.2.1 pc = .ok (.l2f, 1)) (hp : pc0 = pc) (k : zZ g Y Q (pc + 1) lv (.float (FP.l2f x) :: st) h ce sl) : zZ g Y Q pc0 lv (.long x :: st) h ce sl := by
  subst hp
  intro p e s m args below meth c H locs ls C hO hS hl
  exact lv_l2f C.1 C.2.1 hd (k p e s m args below meth c H locs ls C hO hS hl)
theorem z_dadd {x y : UInt64} (hd : decode Y.2.1 pc = .ok (.dadd, 1)) (hp : pc0 = pc) (hne : vf_n64 (FP.dadd x y)) (k : zZ g Y Q (pc + 1) lv (.double (FP.dadd x y) :: st) h ce sl) : zZ g Y Q pc0 lv (.double y :: .double x :: st) h ce sl := by
  subst hp
  intro p e s m args below meth c H locs ls C hO hS hl
  exact lv_dadd C.1 C.2.1 hd hne (k p e s m args below meth c H locs ls C hO hS hl)
theorem z_dsub {x y : UInt64} (hd : decode Y.2.1 pc = .ok (.dsub, 1)) (hp : pc0 = pc) (hne : vf_n64 (FP.dsub x y)) (k : zZ g Y Q (pc + 1) lv (.double (FP.dsub x y) :: st) h ce sl) : zZ g Y Q pc0 lv (.double y :: .double x :: st) h ce sl := by
  subst hp
  intro p e s m args below meth c H locs ls C hO hS hl
  exact lv_dsub C.1 C.2.1 hd hne (k p e s m args below meth c H locs ls C hO hS hl)
theorem z_dmul {x y : UInt64} (hd : decode Y.2.1 pc = .ok (.dmul, 1)) (hp : pc0 = pc) (hne : vf_n64 (FP.dmul x y)) (k : zZ g Y Q (pc + 1) lv (.double (FP.dmul x y) :: st) h ce sl) : zZ g Y Q pc0 lv (.double y :: .double x :: st) h ce sl := by
  subst hp
  intro p e s m args below meth c H locs ls C hO hS hl
  exact lv_dmul C.1 C.2.1 hd hne (k p e s m args below meth c H locs ls C hO hS hl)
theorem z_dneg {x : UInt64} (hd : decode Y.2.1 pc = .ok (.dneg, 1)) (hp : pc0 = pc) (k : zZ g Y Q (pc + 1) lv (.double (FP.dneg x) :: st) h ce sl) : zZ g Y Q pc0 lv (.double x :: st) h ce sl := by
  subst hp
  intro p e s m args below meth c H locs ls C hO hS hl
  exact lv_dneg C.1 C.2.1 hd (k p e s m args below meth c H locs ls C hO hS hl)
theorem z_dcmp {x y : UInt64} {op : CmpOp} (hd : decode Y.2.1 pc = .ok (.dcmp op, 1)) (hp : pc0 = pc) (k : zZ g Y Q (pc + 1) lv (.int (Op.cmpValue (FP.dcmp x y) op) :: st) h ce sl) : zZ g Y Q pc0 lv (.double y :: .double x :: st) h ce sl := by
  subst hp
  intro p e s m args below meth c H locs ls C hO hS hl
  exact lv_dcmp C.1 C.2.1 hd (k p e s m args below meth c H locs ls C hO hS hl)
theorem z_i2d {x : Int32} (hd : decode Y.2.1 pc = .ok (.i2d, 1)) (hp : pc0 = pc) (k : zZ g Y Q (pc + 1) lv (.double (FP.i2d x) :: st) h ce sl) : zZ g Y Q pc0 lv (.int x :: st) h ce sl := by
  subst hp
  intro p e s m args below meth c H locs ls C hO hS hl
  exact lv_i2d C.1 C.2.1 hd (k p e s m args below meth c H locs ls C hO hS hl)
theorem z_l2d {x : Int64} (hd : decode Y.2.1 pc = .ok (.l2d, 1)) (hp : pc0 = pc) (k : zZ g Y Q (pc + 1) lv (.double (FP.l2d x) :: st) h ce sl) : zZ g Y Q pc0 lv (.long x :: st) h ce sl := by
  subst hp
  intro p e s m args below meth c H locs ls C hO hS hl
  exact lv_l2d C.1 C.2.1 hd (k p e s m args below meth c H locs ls C hO hS hl)
theorem z_d2l {x : UInt64} (hd : decode Y.2.1 pc = .ok (.d2l, 1)) (hp : pc0 = pc) (k : zZ g Y Q (pc + 1) lv (.long (FP.d2l x) :: st) h ce sl) : zZ g Y Q pc0 lv (.double x :: st) h ce sl := by
  subst hp
  intro p e s m args below meth c H locs ls C hO hS hl
  exact lv_d2l C.1 C.2.1 hd (k p e s m args below meth c H locs ls C hO hS hl)
theorem z_f2d {x : UInt32} (hd : decode Y.2.1 pc = .ok (.f2d, 1)) (hp : pc0 = pc) (hne : vf_n64 (FP.f2d x)) (k : zZ g Y Q (pc + 1) lv (.double (FP.f2d x) :: st) h ce sl) : zZ g Y Q pc0 lv (.float x :: st) h ce sl := by
  subst hp
  intro p e s m args below meth c H locs ls C hO hS hl
  exact lv_f2d C.1 C.2.1 hd hne (k p e s m args below meth c H locs ls C hO hS hl)
theorem z_d2f {x : UInt64} (hd : decode Y.2.1 pc = .ok (.d2f, 1)) (hp : pc0 = pc) (hne : vf_n32 (FP.d2f x)) (k : zZ g Y Q (pc + 1) lv (.float (FP.d2f x) :: st) h ce sl) : zZ g Y Q pc0 lv (.double x :: st) h ce sl := by
  subst hp
  intro p e s m args below meth c H locs ls C hO hS hl
  exact lv_d2f C.1 C.2.1 hd hne (k p e s m args below meth c H locs ls C hO hS hl)
theorem z_if_eq {x : Int32} {off : Int} {tgt : Nat} (hd : decode Y.2.1 pc = .ok (.ifCond .eq off, 3)) (hp : pc0 = pc) (ht : (pc : Int) + off = (tgt : Int)) (kt : x = 0 → zZ g Y Q tgt lv st h ce sl) (kf : ¬ x = 0 → zZ g Y Q (pc + 3) lv st h ce sl) : zZ g Y Q pc0 lv (.int x :: st) h ce sl := by
  subst hp
  intro p e s m args below meth c H locs ls C hO hS hl
  exact lv_if_eq C.1 C.2.1 hd ht (fun hc => kt hc p e s m args below meth c H locs ls C hO hS hl) (fun hc => kf hc p e s m args below meth c H locs ls C hO hS hl)
theorem z_icmp_eq {x y : Int32} {off : Int} {tgt : Nat} (hd : decode Y.2.1 pc = .ok (.if_icmp .eq off, 3)) (hp : pc0 = pc) (ht : (pc : Int) + off = (tgt : Int)) (kt : x = y → zZ g Y Q tgt lv st h ce sl) (kf : ¬ x = y → zZ g Y Q (pc + 3) lv st h ce sl) : zZ g Y Q pc0 lv (.int y :: .int x :: st) h ce sl := by
  subst hp
  intro p e s m args below meth c H locs ls C hO hS hl
  exact lv_icmp_eq C.1 C.2.1 hd ht (fun hc => kt hc p e s m args below meth c H locs ls C hO hS hl) (fun hc => kf hc p e s m args below meth c H locs ls C hO hS hl)
theorem z_if_ne {x : Int32} {off : Int} {tgt : Nat} (hd : decode Y.2.1 pc = .ok (.ifCond .ne off, 3)) (hp : pc0 = pc) (ht : (pc : Int) + off = (tgt : Int)) (kt : ¬ x = 0 → zZ g Y Q tgt lv st h ce sl) (kf : x = 0 → zZ g Y Q (pc + 3) lv st h ce sl) : zZ g Y Q pc0 lv (.int x :: st) h ce sl := by
  subst hp
  intro p e s m args below meth c H locs ls C hO hS hl
  exact lv_if_ne C.1 C.2.1 hd ht (fun hc => kt hc p e s m args below meth c H locs ls C hO hS hl) (fun hc => kf hc p e s m args below meth c H locs ls C hO hS hl)
theorem z_icmp_ne {x y : Int32} {off : Int} {tgt : Nat} (hd : decode Y.2.1 pc = .ok (.if_icmp .ne off, 3)) (hp : pc0 = pc) (ht : (pc : Int) + off = (tgt : Int)) (kt : ¬ x = y → zZ g Y Q tgt lv st h ce sl) (kf : x = y → zZ g Y Q (pc + 3) lv st h ce sl) : zZ g Y Q pc0 lv (.int y :: .int x :: st) h ce sl := by
  subst hp
  intro p e s m args below meth c H locs ls C hO hS hl
  exact lv_icmp_ne C.1 C.2.1 hd ht (fun hc => kt hc p e s m args below meth c H locs ls C hO hS hl) (fun hc => kf hc p e s m args below meth c H locs ls C hO hS hl)
theorem z_if_lt {x : Int32} {off : Int} {tgt : Nat} (hd : decode Y.2.1 pc = .ok (.ifCond .lt off, 3)) (hp : pc0 = pc) (ht : (pc : Int) + off = (tgt : Int)) (kt : x < 0 → zZ g Y Q tgt lv st h ce sl) (kf : ¬ x < 0 → zZ g Y Q (pc + 3) lv st h ce sl) : zZ g Y Q pc0 lv (.int x :: st) h ce sl := by
  subst hp
  intro p e s m args below meth c H locs ls C hO hS hl
  exact lv_if_lt C.1 C.2.1 hd ht (fun hc => kt hc p e s m args below meth c H locs ls C hO hS hl) (fun hc => kf hc p e s m args below meth c H locs ls C hO hS hl)
theorem z_icmp_lt {x y : Int32} {off : Int} {tgt : Nat} (hd : decode Y.2.1 pc = .ok (.if_icmp .lt off, 3)) (hp : pc0 = pc) (ht : (pc : Int) + off = (tgt : Int)) (kt : x < y → zZ g Y Q tgt lv st h ce sl) (kf : ¬ x < y → zZ g Y Q (pc + 3) lv st h ce sl) : zZ g Y Q pc0 lv (.int y :: .int x :: st) h ce sl := by
  subst hp
  intro p e s m args below meth c H locs ls C hO hS hl
  exact lv_icmp_lt C.1 C.2.1 hd ht (fun hc => kt hc p e s m args below meth c H locs ls C hO hS hl) (fun hc => kf hc p e s m args below meth c H locs ls C hO hS hl)
theorem z_if_ge {x : Int32} {off : Int} {tgt : Nat} (hd : decode Y.2.1 pc = .ok (.ifCond .ge off, 3)) (hp : pc0 = pc) (ht : (pc : Int) + off = (tgt : Int)) (kt : 0 ≤ x → zZ g Y Q tgt lv st h ce sl) (kf : ¬ 0 ≤ x → zZ g Y Q (pc + 3) lv st h ce sl) : zZ g Y Q pc0 lv (.int x :: st) h ce sl := by
  subst hp
  intro p e s m args below meth c H locs ls C hO hS hl
  exact lv_if_ge C.1 C.2.1 hd ht (fun hc => kt hc p e s m args below meth c H locs ls C hO hS hl) (fun hc => kf hc p e s m args below meth c H locs ls C hO hS hl)
theorem z_icmp_ge {x y : Int32} {off : Int} {tgt : Nat} (hd : decode Y.2.1 pc = .ok (.if_icmp .ge off, 3)) (hp : pc0 = pc) (ht : (pc : Int) + off = (tgt : Int)) (kt : y ≤ x → zZ g Y Q tgt lv st h ce sl) (kf : ¬ y ≤ x → zZ g Y Q (pc + 3) lv st h ce sl) : zZ g Y Q pc0 lv (.int y :: .int x :: st) h ce sl := by
  subst hp
  intro p e s m args below meth c H locs ls C hO hS hl
  exact lv_icmp_ge C.1 C.2.1 hd ht (fun hc => kt hc p e s m args below meth c H locs ls C hO hS hl) (fun hc => kf hc p e s m args below meth c H locs ls C hO hS hl)
theorem z_if_gt {x : Int32} {off : Int} {tgt : Nat} (hd : decode Y.2.1 pc = .ok (.ifCond .gt off, 3)) (hp : pc0 = pc) (ht : (pc : Int) + off = (tgt : Int)) (kt : 0 < x → zZ g Y Q tgt lv st h ce sl) (kf : ¬ 0 < x → zZ g Y Q (pc + 3) lv st h ce sl) : zZ g Y Q pc0 lv (.int x :: st) h ce sl := by
  subst hp
  intro p e s m args below meth c H locs ls C hO hS hl
  exact lv_if_gt C.1 C.2.1 hd ht (fun hc => kt hc p e s m args below meth c H locs ls C hO hS hl) (fun hc => kf hc p e s m args below meth c H locs ls C hO hS hl)
theorem z_icmp_gt {x y : Int32} {off : Int} {tgt : Nat} (hd : decode Y.2.1 pc = .ok (.if_icmp .gt off, 3)) (hp : pc0 = pc) (ht : (pc : Int) + off = (tgt : Int)) (kt : y < x → zZ g Y Q tgt lv st h ce sl) (kf : ¬ y < x → zZ g Y Q (pc + 3) lv st h ce sl) : zZ g Y Q pc0 lv (.int y :: .int x :: st) h ce sl := by
  subst hp
  intro p e s m args below meth c H locs ls C hO hS hl
  exact lv_icmp_gt C.1 C.2.1 hd ht (fun hc => kt hc p e s m args below meth c H locs ls C hO hS hl) (fun hc => kf hc p e s m args below meth c H locs ls C hO hS hl)
theorem z_if_le {x : Int32} {off : Int} {tgt : Nat} (hd : decode Y.2.1 pc = .ok (.ifCond .le off, 3)) (hp : pc0 = pc) (ht : (pc : Int) + off = (tgt : Int)) (kt : x ≤ 0 → zZ g Y Q tgt lv st h ce sl) (kf : ¬ x ≤ 0 → zZ g Y Q (pc + 3) lv st h ce sl) : zZ g Y Q pc0 lv (.int x :: st) h ce sl := by
  subst hp
  intro p e s m args below meth c H locs ls C hO hS hl
  exact lv_if_le C.1 C.2.1 hd ht (fun hc => kt hc p e s m args below meth c H locs ls C hO hS hl) (fun hc => kf hc p e s m args below meth c H locs ls C hO hS hl)
theorem z_icmp_le {x y : Int32} {off : Int} {tgt : Nat} (hd : decode Y.2.1 pc = .ok (.if_icmp .le off, 3)) (hp : pc0 = pc) (ht : (pc : Int) + off = (tgt : Int)) (kt : x ≤ y → zZ g Y Q tgt lv st h ce sl) (kf : ¬ x ≤ y → zZ g Y Q (pc + 3) lv st h ce sl) : zZ g Y Q pc0 lv (.int y :: .int x :: st) h ce sl := by
  subst hp
  intro p e s m args below meth c H locs ls C hO hS hl
  exact lv_icmp_le C.1 C.2.1 hd ht (fun hc => kt hc p e s m args below meth c H locs ls C hO hS hl) (fun hc => kf hc p e s m args below meth c H locs ls C hO hS hl)
theorem z_goto {off : Int} {tgt : Nat} (hd : decode Y.2.1 pc = .ok (.goto off, 3)) (hp : pc0 = pc) (ht : (pc : Int) + off = (tgt : Int)) (k : zZ g Y Q tgt lv st h ce sl) : zZ g Y Q pc0 lv st h ce sl := by
  subst hp
  intro p e s m args below meth c H locs ls C hO hS hl
  exact lv_goto C.1 C.2.1 hd ht (k p e s m args below meth c H locs ls C hO hS hl)
theorem z_ifnonnull {x : Nat} {off : Int} {tgt : Nat} (hd : decode Y.2.1 pc = .ok (.ifnonnull off, 3)) (hp : pc0 = pc) (ht : (pc : Int) + off = (tgt : Int)) (k : zZ g Y Q tgt lv st h ce sl) : zZ g Y Q pc0 lv (.ref x :: st) h ce sl := by
  subst hp
  intro p e s m args below meth c H locs ls C hO hS hl
  exact lv_ifnonnull C.1 C.2.1 hd ht (k p e s m args below meth c H locs ls C hO hS hl)
theorem z_ifnonnullN {off : Int} (hd : decode Y.2.1 pc = .ok (.ifnonnull off, 3)) (hp : pc0 = pc) (k : zZ g Y Q (pc + 3) lv st h ce sl) : zZ g Y Q pc0 lv (.null :: st) h ce sl := by
  subst hp
  intro p e s m args below meth c H locs ls C hO hS hl
  exact lv_ifnonnullN C.1 C.2.1 hd (k p e s m args below meth c H locs ls C hO hS hl)
theorem z_ifnull {x : Nat} {off : Int} (hd : decode Y.2.1 pc = .ok (.ifnull off, 3)) (hp : pc0 = pc) (k : zZ g Y Q (pc + 3) lv st h ce sl) : zZ g Y Q pc0 lv (.ref x :: st) h ce sl := by
  subst hp
  intro p e s m args below meth c H locs ls C hO hS hl
  exact lv_ifnull C.1 C.2.1 hd (k p e s m args below meth c H locs ls C hO hS hl)
theorem z_ifnullN {off : Int} {tgt : Nat} (hd : decode Y.2.1 pc = .ok (.ifnull off, 3)) (hp : pc0 = pc) (ht : (pc : Int) + off = (tgt : Int)) (k : zZ g Y Q tgt lv st h ce sl) : zZ g Y Q pc0 lv (.null :: st) h ce sl := by
  subst hp
  intro p e s m args below meth c H locs ls C hO hS hl
  exact lv_ifnullN C.1 C.2.1 hd ht (k p e s m args below meth c H locs ls C hO hS hl)
theorem z_acmp_eq {rx ry : Option Nat} {off : Int} {tgt : Nat} (hd : decode Y.2.1 pc = .ok (.if_acmp .eq off, 3)) (hp : pc0 = pc) (ht : (pc : Int) + off = (tgt : Int)) (kt : rx = ry → zZ g Y Q tgt lv st h ce sl) (kf : ¬ rx = ry → zZ g Y Q (pc + 3) lv st h ce sl) : zZ g Y Q pc0 lv (va_rf ry :: va_rf rx :: st) h ce sl := by
  subst hp
  intro p e s m args below meth c H locs ls C hO hS hl
  exact lv_acmp_eq C.1 C.2.1 hd ht (fun hc => kt hc p e s m args below meth c H locs ls C hO hS hl) (fun hc => kf hc p e s m args below meth c H locs ls C hO hS hl)
theorem z_acmp_ne {rx ry : Option Nat} {off : Int} {tgt : Nat} (hd : decode Y.2.1 pc = .ok (.if_acmp .ne off, 3)) (hp : pc0 = pc) (ht : (pc : Int) + off = (tgt : Int)) (kt : ¬ rx = ry → zZ g Y Q tgt lv st h ce sl) (kf : rx = ry → zZ g Y Q (pc + 3) lv st h ce sl) : zZ g Y Q pc0 lv (va_rf ry :: va_rf rx :: st) h ce sl := by
  subst hp
  intro p e s m args below meth c H locs ls C hO hS hl
  exact lv_acmp_ne C.1 C.2.1 hd ht (fun hc => kt hc p e s m args below meth c H locs ls C hO hS hl) (fun hc => kf hc p e s m args below meth c H locs ls C hO hS hl)
theorem z_tableOut {dflt lo hi : Int} {offs : Array Int} {len : Nat} {x : Int32} {tgt : Nat} (hd : decode Y.2.1 pc = .ok (.tableswitch dflt lo hi offs, len)) (hp : pc0 = pc) (hx : x.toInt < lo ∨ hi < x.toInt) (ht : (pc : Int) + dflt = (tgt : Int)) (k : zZ g Y Q tgt lv st h ce sl) : zZ g Y Q pc0 lv (.int x :: st) h ce sl := by
  subst hp
  intro p e s m args below meth c H locs ls C hO hS hl
  exact lv_tableOut C.1 C.2.1 hd hx ht (k p e s m args below meth c H locs ls C hO hS hl)
theorem z_tableIn {dflt lo hi : Int} {offs : Array Int} {len : Nat} {x : Int32} {off : Int} {tgt : Nat} (hd : decode Y.2.1 pc = .ok (.tableswitch dflt lo hi offs, len)) (hp : pc0 = pc) (h1 : ¬ x.toInt < lo) (h2 : ¬ hi < x.toInt) (ho : offs[(x.toInt - lo).toNat]? = some off) (ht : (pc : Int) + off = (tgt : Int)) (k : zZ g Y Q tgt lv st h ce sl) : zZ g Y Q pc0 lv (.int x :: st) h ce sl := by
  subst hp
  intro p e s m args below meth c H locs ls C hO hS hl
  exact lv_tableIn C.1 C.2.1 hd h1 h2 ho ht (k p e s m args below meth c H locs ls C hO hS hl)
theorem zCx.K {p : Program} {s : State} {m : MethodId} {args : Array Value} {meth : Method} {c : Code} (C : zCx g Y p s m args meth c) : zK g s := C.2.2.2.2.2.2.2.1
theorem zCx.own {p : Program} {s : State} {m : MethodId} {args : Array Value} {meth : Method} {c : Code} (C : zCx g Y p s m args meth c) : s.vm.findClass Y.1 = some m.cls := C.2.2.2.2.1
theorem zCx.lo {p : Program} {s : State} {m : MethodId} {args : Array Value} {meth : Method} {c : Code} (C : zCx g Y p s m args meth c) : g.2.2.2 ≤ s.heap.size := C.2.2.2.2.2.2.2.2.1
theorem zCx.locks {p : Program} {s : State} {m : MethodId} {args : Array Value} {meth : Method} {c : Code} (C : zCx g Y p s m args meth c) : meth.locks = false := C.2.2.2.2.2.1
theorem zCx.nm {p : Program} {s : State} {m : MethodId} {args : Array Value} {meth : Method} {c : Code} (C : zCx g Y p s m args meth c) : meth.name = Y.2.2.2.2.2.1 := C.2.2.2.2.2.2.1

theorem z_ldc {index : Nat} {v : Int32} (hd : decode Y.2.1 pc = .ok (.ldc index, 2)) (hp : pc0 = pc) (hw : Cond.constant Y.1 index v ∈ lw_tbl) (k : zZ g Y Q (pc + 2) lv (.int v :: st) h ce sl) : zZ g Y Q pc0 lv st h ce sl := by
  subst hp
  intro p e s m args below meth c H locs ls C hO hS hl
  exact lv_ldc C.1 C.2.1 C.own (C.K.word hw rfl) hd (k p e s m args below meth c H locs ls C hO hS hl)
theorem z_ldcw {index : Nat} {v : Int32} (hd : decode Y.2.1 pc = .ok (.ldc_w index, 3)) (hp : pc0 = pc) (hw : Cond.constant Y.1 index v ∈ lw_tbl) (k : zZ g Y Q (pc + 3) lv (.int v :: st) h ce sl) : zZ g Y Q pc0 lv st h ce sl := by
  subst hp
  intro p e s m args below meth c H locs ls C hO hS hl
  exact lv_ldcw C.1 C.2.1 C.own (C.K.word hw rfl) hd (k p e s m args below meth c H locs ls C hO hS hl)
theorem z_ldcf {index : Nat} {v : UInt32} (hd : decode Y.2.1 pc = .ok (.ldc index, 2)) (hp : pc0 = pc) (hw : Cond.constantFloat Y.1 index v ∈ lw_tbl) (k : zZ g Y Q (pc + 2) lv (.float v :: st) h ce sl) : zZ g Y Q pc0 lv st h ce sl := by
  subst hp
  intro p e s m args below meth c H locs ls C hO hS hl
  exact lv_ldcf C.1 C.2.1 C.own (C.K.word hw rfl) hd (k p e s m args below meth c H locs ls C hO hS hl)
theorem z_ldc2 {index : Nat} {v : Int64} (hd : decode Y.2.1 pc = .ok (.ldc2_w index, 3)) (hp : pc0 = pc) (hw : Cond.constantLong Y.1 index v ∈ lw_tbl) (k : zZ g Y Q (pc + 3) lv (.long v :: st) h ce sl) : zZ g Y Q pc0 lv st h ce sl := by
  subst hp
  intro p e s m args below meth c H locs ls C hO hS hl
  exact lv_ldc2 C.1 C.2.1 C.own (C.K.word hw rfl) hd (k p e s m args below meth c H locs ls C hO hS hl)
theorem z_ldc2d {index : Nat} {v : UInt64} (hd : decode Y.2.1 pc = .ok (.ldc2_w index, 3)) (hp : pc0 = pc) (hw : Cond.constantDouble Y.1 index v ∈ lw_tbl) (k : zZ g Y Q (pc + 3) lv (.double v :: st) h ce sl) : zZ g Y Q pc0 lv st h ce sl := by
  subst hp
  intro p e s m args below meth c H locs ls C hO hS hl
  exact lv_ldc2d C.1 C.2.1 C.own (C.K.word hw rfl) hd (k p e s m args below meth c H locs ls C hO hS hl)
theorem u_good {C0 : String} {T : u_T} {N : Nat} : ∀ w ∈ u_ws C0 T N, goodWord w = true := by
  intro w hw
  obtain ⟨k, -, rfl⟩ := List.mem_map.mp hw
  unfold u_lay
  split <;> rfl
theorem zK.lay {s : State} {args : Array Value} {C0 : String} {T : u_T} {N : Nat} (h : zK g s) (hin : ∀ w ∈ u_ws C0 T N, w ∈ lw_tbl) : ∀ w ∈ u_ws C0 T N, w.before args s = true := fun w hw => h.word (hin w hw) (u_good w hw)
theorem z_get {index a ci N : Nat} {C0 : String} {T : u_T} {fs : List Value} {v : Value} (kf : Nat) (hin : ∀ w ∈ u_ws C0 T N, w ∈ lw_tbl) (hc : vwCl[ci]? = some (C0, T, N)) (hk : kf < N) (hw : Cond.fieldLink Y.1 index (T kf).1 (T kf).2.1 (T kf).2.2.1 ∈ lw_tbl) (hd : decode Y.2.1 pc = .ok (.getfield index, 3)) (hp : pc0 = pc) (ho : h.2 a = some (.inr (ci, fs))) (hv : fs[kf]? = some v) (k : zZ g Y Q (pc + 3) lv (v :: st) h ce sl) : zZ g Y Q pc0 lv (.ref a :: st) h ce sl := by
  subst hp
  intro p e s m args below meth c H locs ls C hO hS hl
  exact va_get C.1 C.2.1 (C.K.lay hin) (fun _ h => h) C.own C.K.2.1 (hO.at ho) 0 rfl hc kf hk (C.K.word hw rfl) (fun _ h => h) hv hd (k p e s m args below meth c H locs ls C hO hS hl)
theorem z_put {index a ci N : Nat} {C0 : String} {T : u_T} {fs : List Value} {v : Value} {ty : FieldType} (kf : Nat) (ty0 : Nat → FieldType) (hin : ∀ w ∈ u_ws C0 T N, w ∈ lw_tbl) (hty : ∀ k, k < N → parseFieldDescriptor (T k).2.2.1 = some (ty0 k)) (hnm : ∀ a, a < N → ∀ b, b < N → a ≠ b → (T a).2.1 ≠ (T b).2.1) (hc : vwCl[ci]? = some (C0, T, N)) (hk : kf < N) (hw : Cond.fieldLink Y.1 index (T kf).1 (T kf).2.1 (T kf).2.2.1 ∈ lw_tbl) (hfin : (T kf).2.2.2 = false) (hdd : parseFieldDescriptor (T kf).2.2.1 = some ty) (hd : decode Y.2.1 pc = .ok (.putfield index, 3)) (hp : pc0 = pc) (ho : h.2 a = some (.inr (ci, fs))) (hn : narrow ty v = v) (hfit : fits ty v = true) (hlen : kf < fs.length)
    (k : zZ g Y Q (pc + 3) lv st (h.1, va_up h.2 a (some (.inr (ci, fs.set kf v)))) ce sl) : zZ g Y Q pc0 lv (v :: .ref a :: st) h ce sl := by
  subst hp
  intro p e s m args below meth c H locs ls C hO hS hl
  have hts := C.K.lay (args := args) hin
  have hap := va_apart (own := Y.1) hts (fun _ h => h) ty0 hty hnm C.K.2.1 hc
  obtain ⟨hlo, r, h1, cell, q1, q2, q3, q4⟩ := hO.2 a _ ho
  have hr : r = (C0, T, N) := Option.some.inj (h1.symm.trans hc)
  subst hr
  obtain ⟨hSl, hfc, kC, hkC, hkind⟩ := C.K.2.1.1 ci _ hc
  obtain ⟨cf, kf', fi, f, hi, hsl⟩ := hSl kf hk
  have hlay := hts _ (u_in_lay hk)
  unfold u_lay at hlay
  rw [if_neg (by rw [hfin]; decide)] at hlay
  have hst := (u_facts hfc hkC (u_lays hts (fun _ h => h) hk) hi).1
  have h6 := u_store hfc hkC hkind hlay hi hdd hn hfit
  refine W.putK C.1 C.2.1 (f := f) ⟨C.own, C.K.word hw rfl, ⟨_, _, _, hi⟩, hst⟩ (by rw [q2]; exact h6) q1 q3 (by rw [hsl]; exact k2_hasslot (q4 kf hk)) rfl rfl hd fun H' e1 e2 e3 => ?_
  rw [hsl] at e1 ⊢
  refine k p e s m args below meth c H' _ ls C (hO.set ho ?_ e2 e3) (hS.put e2 e3 hlo) hl
  exact ⟨_, hc, t_OB.to (V := updV (vp_V fs) kf v) ⟨_, e1, q2, q3, t_set q4 hap hk v⟩ (fun j _ => vp_updV_set hlen v j)⟩
theorem z_putF {index a ci N : Nat} {C0 : String} {T : u_T} {fs : List Value} {v : Value} {ty : FieldType} (kf : Nat) (ty0 : Nat → FieldType) (hin : ∀ w ∈ u_ws C0 T N, w ∈ lw_tbl) (hty : ∀ k, k < N → parseFieldDescriptor (T k).2.2.1 = some (ty0 k)) (hnm : ∀ a, a < N → ∀ b, b < N → a ≠ b → (T a).2.1 ≠ (T b).2.1) (hc : vwCl[ci]? = some (C0, T, N)) (hk : kf < N) (hw : Cond.fieldLink Y.1 index (T kf).1 (T kf).2.1 (T kf).2.2.1 ∈ lw_tbl) (hfin : (T kf).2.2.2 = true) (hdd : parseFieldDescriptor (T kf).2.2.1 = some ty) (hinit : Y.2.2.2.2.2.1 = "<init>") (hdecl : (T kf).1 = Y.1) (hd : decode Y.2.1 pc = .ok (.putfield index, 3)) (hp : pc0 = pc) (ho : h.2 a = some (.inr (ci, fs))) (hn : narrow ty v = v) (hfit : fits ty v = true) (hlen : kf < fs.length)
    (k : zZ g Y Q (pc + 3) lv st (h.1, va_up h.2 a (some (.inr (ci, fs.set kf v)))) ce sl) : zZ g Y Q pc0 lv (v :: .ref a :: st) h ce sl := by
  subst hp
  intro p e s m args below meth c H locs ls C hO hS hl
  have hts := C.K.lay (args := args) hin
  have hap := va_apart (own := Y.1) hts (fun _ h => h) ty0 hty hnm C.K.2.1 hc
  obtain ⟨hlo, r, h1, cell, q1, q2, q3, q4⟩ := hO.2 a _ ho
  have hr : r = (C0, T, N) := Option.some.inj (h1.symm.trans hc)
  subst hr
  obtain ⟨hSl, hfc, kC, hkC, hkind⟩ := C.K.2.1.1 ci _ hc
  obtain ⟨cf, kf', fi, f, hi, hsl⟩ := hSl kf hk
  have hlay := hts _ (u_in_lay hk)
  unfold u_lay at hlay
  rw [if_pos hfin] at hlay
  have hst := (u_facts hfc hkC (u_lays hts (fun _ h => h) hk) hi).1
  have hcf : m.cls = cf := by
    obtain ⟨_, _, c', _, _, _, -, -, hf', -, -, -, hown2, -⟩ := Cond.laysFinal_spec hlay
    have e1 : c' = cf := by have := hi.symm.trans hf'; simp at this; exact this.1.symm
    rw [hdecl] at hown2
    rw [← e1]; exact Option.some.inj (C.own.symm.trans hown2)
  have h6 := u_fits hfc hkC hkind (Or.inr hlay) hi hdd hn hfit
  refine W.putFinK C.1 C.2.1 C.own (C.K.word hw rfl) hi hst hcf (C.nm.trans hinit) (by rw [q2]; exact h6) q1 q3 (by rw [hsl]; exact k2_hasslot (q4 kf hk)) rfl rfl hd fun H' e1 e2 e3 => ?_
  rw [hsl] at e1 ⊢
  refine k p e s m args below meth c H' _ ls C (hO.set ho ?_ e2 e3) (hS.put e2 e3 hlo) hl
  exact ⟨_, hc, t_OB.to (V := updV (vp_V fs) kf v) ⟨_, e1, q2, q3, t_set q4 hap hk v⟩ (fun j _ => vp_updV_set hlen v j)⟩

theorem z_iald {a n : Nat} {f : Nat → Int32} {i : Int32} (hd : decode Y.2.1 pc = .ok (.iaload, 1)) (hp : pc0 = pc) (ho : h.2 a = some (.inl (0, n, .inl f))) (hi : vp_in i n) (k : zZ g Y Q (pc + 1) lv (.int (f i.toNatClampNeg) :: st) h ce sl) : zZ g Y Q pc0 lv (.int i :: .ref a :: st) h ce sl := by
  subst hp
  intro p e s m args below meth c H locs ls C hO hS hl
  exact va_iald C.1 C.2.1 C.K.2.1 (hO.at ho) 0 0 rfl rfl hi hd (k p e s m args below meth c H locs ls C hO hS hl)
theorem z_iast {a n : Nat} {f : Nat → Int32} {i : Int32} {x : Int32} (hd : decode Y.2.1 pc = .ok (.iastore, 1)) (hp : pc0 = pc) (ho : h.2 a = some (.inl (0, n, .inl f))) (hi : vp_in i n) (k : zZ g Y Q (pc + 1) lv st (h.1, va_up h.2 a (some (.inl (0, n, .inl (upd f i.toNatClampNeg x))))) ce sl) : zZ g Y Q pc0 lv (.int x :: .int i :: .ref a :: st) h ce sl := by
  subst hp
  intro p e s m args below meth c H locs ls C hO hS hl
  have hlo := (hO.2 a _ ho).1
  refine W.iast C.1 C.2.1 (hO.at ho 0 _ rfl) ((C.K.2.1.2 0 _ rfl).1 n (fun j => .int (f j))) (fun q => by cases q) (by show ¬ (i < 0 ∨ (arrV _ _ _).slots.size ≤ _); rw [arrV_size]; exact hi) rfl rfl hd fun H1 e1 z oq => ?_
  refine k p e s m args below meth c H1 _ ls C (hO.set ho ?_ z oq) (hS.put z oq hlo) hl
  show H1[a]? = some (vp_cell _ _)
  rw [e1]
  show some ((vp_cell _ _).setSlot _ _) = _
  rw [vp_cell_i, vp_cell_i, arrV_store]
  congr 2
  funext q
  by_cases hq : q = i.toNatClampNeg
  · subst hq
    simp [updV, upd, vp_nar]
    try rfl
  · simp [updV, upd, hq]
theorem z_lald {a n : Nat} {f : Nat → Int64} {i : Int32} (hd : decode Y.2.1 pc = .ok (.laload, 1)) (hp : pc0 = pc) (ho : h.2 a = some (.inl (1, n, .inr (.inl f)))) (hi : vp_in i n) (k : zZ g Y Q (pc + 1) lv (.long (f i.toNatClampNeg) :: st) h ce sl) : zZ g Y Q pc0 lv (.int i :: .ref a :: st) h ce sl := by
  subst hp
  intro p e s m args below meth c H locs ls C hO hS hl
  exact va_lald C.1 C.2.1 C.K.2.1 (hO.at ho) 0 1 rfl rfl hi hd (k p e s m args below meth c H locs ls C hO hS hl)
theorem z_last {a n : Nat} {f : Nat → Int64} {i : Int32} {x : Int64} (hd : decode Y.2.1 pc = .ok (.lastore, 1)) (hp : pc0 = pc) (ho : h.2 a = some (.inl (1, n, .inr (.inl f)))) (hi : vp_in i n) (k : zZ g Y Q (pc + 1) lv st (h.1, va_up h.2 a (some (.inl (1, n, .inr (.inl (vp_updL f i.toNatClampNeg x)))))) ce sl) : zZ g Y Q pc0 lv (.long x :: .int i :: .ref a :: st) h ce sl := by
  subst hp
  intro p e s m args below meth c H locs ls C hO hS hl
  have hlo := (hO.2 a _ ho).1
  refine W.last C.1 C.2.1 (hO.at ho 0 _ rfl) ((C.K.2.1.2 1 _ rfl).1 n (fun j => .long (f j))) (fun q => by cases q) (by show ¬ (i < 0 ∨ (arrV _ _ _).slots.size ≤ _); rw [arrV_size]; exact hi) rfl rfl hd fun H1 e1 z oq => ?_
  refine k p e s m args below meth c H1 _ ls C (hO.set ho ?_ z oq) (hS.put z oq hlo) hl
  show H1[a]? = some (vp_cell _ _)
  rw [e1]
  show some ((vp_cell _ _).setSlot _ _) = _
  rw [vp_cell_l, vp_cell_l, arrV_store]
  congr 2
  funext q
  by_cases hq : q = i.toNatClampNeg
  · subst hq
    simp [updV, vp_updL, vp_nar]
    try rfl
  · simp [updV, vp_updL, hq]
theorem z_dald {a n : Nat} {f : Nat → UInt64} {i : Int32} (hd : decode Y.2.1 pc = .ok (.daload, 1)) (hp : pc0 = pc) (ho : h.2 a = some (.inl (2, n, .inr (.inr (.inr (.inl f)))))) (hi : vp_in i n) (k : zZ g Y Q (pc + 1) lv (.double (f i.toNatClampNeg) :: st) h ce sl) : zZ g Y Q pc0 lv (.int i :: .ref a :: st) h ce sl := by
  subst hp
  intro p e s m args below meth c H locs ls C hO hS hl
  exact va_dald C.1 C.2.1 C.K.2.1 (hO.at ho) 0 2 rfl rfl hi hd (k p e s m args below meth c H locs ls C hO hS hl)
theorem z_dast {a n : Nat} {f : Nat → UInt64} {i : Int32} {x : UInt64} (hd : decode Y.2.1 pc = .ok (.dastore, 1)) (hp : pc0 = pc) (ho : h.2 a = some (.inl (2, n, .inr (.inr (.inr (.inl f)))))) (hi : vp_in i n) (k : zZ g Y Q (pc + 1) lv st (h.1, va_up h.2 a (some (.inl (2, n, .inr (.inr (.inr (.inl (vf_upd f i.toNatClampNeg x)))))))) ce sl) : zZ g Y Q pc0 lv (.double x :: .int i :: .ref a :: st) h ce sl := by
  subst hp
  intro p e s m args below meth c H locs ls C hO hS hl
  have hlo := (hO.2 a _ ho).1
  refine W.dast C.1 C.2.1 (hO.at ho 0 _ rfl) ((C.K.2.1.2 2 _ rfl).1 n (fun j => .double (f j))) (fun q => by cases q) (by show ¬ (i < 0 ∨ (arrV _ _ _).slots.size ≤ _); rw [arrV_size]; exact hi) rfl rfl hd fun H1 e1 z oq => ?_
  refine k p e s m args below meth c H1 _ ls C (hO.set ho ?_ z oq) (hS.put z oq hlo) hl
  show H1[a]? = some (vp_cell _ _)
  rw [e1]
  show some ((vp_cell _ _).setSlot _ _) = _
  rw [vp_cell_d, vp_cell_d, arrV_store]
  congr 2
  funext q
  by_cases hq : q = i.toNatClampNeg
  · subst hq
    simp [updV, vf_upd, vp_nar]
    try rfl
  · simp [updV, vf_upd, hq]
theorem z_zald {a n : Nat} {f : Nat → Int32} {i : Int32} (hd : decode Y.2.1 pc = .ok (.baload, 1)) (hp : pc0 = pc) (ho : h.2 a = some (.inl (3, n, .inl f))) (hi : vp_in i n) (k : zZ g Y Q (pc + 1) lv (.int (f i.toNatClampNeg) :: st) h ce sl) : zZ g Y Q pc0 lv (.int i :: .ref a :: st) h ce sl := by
  subst hp
  intro p e s m args below meth c H locs ls C hO hS hl
  exact va_zald C.1 C.2.1 C.K.2.1 (hO.at ho) 0 3 rfl rfl hi hd (k p e s m args below meth c H locs ls C hO hS hl)
theorem z_zast {a n : Nat} {f : Nat → Int32} {i : Int32} {x : Int32} (hd : decode Y.2.1 pc = .ok (.bastore, 1)) (hp : pc0 = pc) (ho : h.2 a = some (.inl (3, n, .inl f))) (hi : vp_in i n) (k : zZ g Y Q (pc + 1) lv st (h.1, va_up h.2 a (some (.inl (3, n, .inl (upd f i.toNatClampNeg (vp_nar .boolean x)))))) ce sl) : zZ g Y Q pc0 lv (.int x :: .int i :: .ref a :: st) h ce sl := by
  subst hp
  intro p e s m args below meth c H locs ls C hO hS hl
  have hlo := (hO.2 a _ ho).1
  refine W.zast C.1 C.2.1 (hO.at ho 0 _ rfl) ((C.K.2.1.2 3 _ rfl).1 n (fun j => .int (f j))) (fun q => by cases q) (by show ¬ (i < 0 ∨ (arrV _ _ _).slots.size ≤ _); rw [arrV_size]; exact hi) rfl rfl hd fun H1 e1 z oq => ?_
  refine k p e s m args below meth c H1 _ ls C (hO.set ho ?_ z oq) (hS.put z oq hlo) hl
  show H1[a]? = some (vp_cell _ _)
  rw [e1]
  show some ((vp_cell _ _).setSlot _ _) = _
  rw [vp_cell_i, vp_cell_i, arrV_store]
  congr 2
  funext q
  by_cases hq : q = i.toNatClampNeg
  · subst hq
    simp [updV, upd, vp_nar]
    try rfl
  · simp [updV, upd, hq]
theorem z_aald {a n t : Nat} {f : Nat → Option Nat} {i : Int32} {ty : FieldType} (hd : decode Y.2.1 pc = .ok (.aaload, 1)) (hp : pc0 = pc) (ho : h.2 a = some (.inl (t, n, .inr (.inr (.inr (.inr f)))))) (ht : (zTys g)[t]? = some (g.2.2.1 t, ty)) (hrt : ty.isReference = true) (hi : vp_in i n) (k : zZ g Y Q (pc + 1) lv (va_rf (f i.toNatClampNeg) :: st) h ce sl) : zZ g Y Q pc0 lv (.int i :: .ref a :: st) h ce sl := by
  subst hp
  intro p e s m args below meth c H locs ls C hO hS hl
  have hlt : i.toNatClampNeg < n := Nat.not_le.mp fun q => hi (Or.inr q)
  exact W.aald (v := va_rf (f i.toNatClampNeg)) (ty := ty) C.1 C.2.1 (hO.at ho 0 _ rfl) ((C.K.2.1.2 t _ ht).1 n (fun j => va_rf (f j))) hrt (fun q => by cases q) (by show ¬ (i < 0 ∨ (arrV _ _ _).slots.size ≤ _); rw [arrV_size]; exact hi) (by show (arrV _ _ _).slots[_]? = _; rw [arrV_read _ _ hlt]) rfl rfl hd (k p e s m args below meth c H locs ls C hO hS hl)
/-- an element that is null, or an address -/
theorem z_aaldc {a n t : Nat} {f : Nat → Option Nat} {i : Int32} {ty : FieldType} (hd : decode Y.2.1 pc = .ok (.aaload, 1)) (hp : pc0 = pc) (ho : h.2 a = some (.inl (t, n, .inr (.inr (.inr (.inr f)))))) (ht : (zTys g)[t]? = some (g.2.2.1 t, ty)) (hrt : ty.isReference = true) (hi : vp_in i n) (kn : f i.toNatClampNeg = none → zZ g Y Q (pc + 1) lv (.null :: st) h ce sl) (ks : ∀ b, f i.toNatClampNeg = some b → zZ g Y Q (pc + 1) lv (.ref b :: st) h ce sl) : zZ g Y Q pc0 lv (.int i :: .ref a :: st) h ce sl := by
  refine z_aald hd hp ho ht hrt hi ?_
  cases hf : f i.toNatClampNeg with
  | none => exact kn hf
  | some b => exact ks b hf
theorem z_aalds {a n t b : Nat} {f : Nat → Option Nat} {i : Int32} {ty : FieldType} (hd : decode Y.2.1 pc = .ok (.aaload, 1)) (hp : pc0 = pc) (ho : h.2 a = some (.inl (t, n, .inr (.inr (.inr (.inr f)))))) (ht : (zTys g)[t]? = some (g.2.2.1 t, ty)) (hrt : ty.isReference = true) (hi : vp_in i n) (hf : f i.toNatClampNeg = some b) (ks : zZ g Y Q (pc + 1) lv (.ref b :: st) h ce sl) : zZ g Y Q pc0 lv (.int i :: .ref a :: st) h ce sl := by
  refine z_aald hd hp ho ht hrt hi ?_
  rw [hf]
  exact ks
theorem z_aast {a n t v ci : Nat} {r : vw_C} {vs : List Value} {f : Nat → Option Nat} {i : Int32} (hd : decode Y.2.1 pc = .ok (.aastore, 1)) (hp : pc0 = pc) (ho : h.2 a = some (.inl (t, n, .inr (.inr (.inr (.inr f)))))) (ht : (zTys g)[t]? = some (g.2.2.1 t, .object r.1)) (hv : h.2 v = some (.inr (ci, vs))) (hc : vwCl[ci]? = some r) (hi : vp_in i n) (k : zZ g Y Q (pc + 1) lv st (h.1, va_up h.2 a (some (.inl (t, n, .inr (.inr (.inr (.inr (va_up f i.toNatClampNeg (some v))))))))) ce sl) : zZ g Y Q pc0 lv (.ref v :: .int i :: .ref a :: st) h ce sl := by
  subst hp
  intro p e s m args below meth c H locs ls C hO hS hl
  have hlo := (hO.2 a _ ho).1
  have hlt : i.toNatClampNeg < n := Nat.not_le.mp fun q => hi (Or.inr q)
  have h0 : ¬ i < 0 := fun q => hi (Or.inl q)
  obtain ⟨r', hr', cellV, g1, g2, g3, -⟩ := (hO.2 v _ hv).2
  have hcls := (C.K.2.1.1 ci r hc).2
  obtain ⟨kA, comp, k1, k2, k3, -⟩ := (C.K.2.1.2 t _ ht).2
  have hcomp : comp = g.2.1.1 ci := Option.some.inj (k3.symm.trans hcls.1)
  subst hcomp
  obtain ⟨kC, hkC, -⟩ := hcls.2
  refine W.aast C.1 C.2.1 (hO.at ho 0 _ rfl) (fun q h => by cases h) (fun h => by cases h) k1 k2 rfl hkC ⟨h0, by show _ < (arrV _ _ _).slots.size; rw [arrV_size]; exact hlt⟩ g1 (fun q h => by rw [g3] at h; cases h) (by rw [g2]; exact hkC) (by rw [g2]; exact va_assign hcls) rfl rfl hd fun H1 e1 z oq => ?_
  refine k p e s m args below meth c H1 _ ls C (hO.set ho ?_ z oq) (hS.put z oq hlo) hl
  show H1[a]? = some (vp_cell _ _)
  rw [e1]
  show some ((vp_cell _ _).setSlot _ _) = _
  rw [vp_cell_q, vp_cell_q, arrV_store]
  congr 2
  funext q
  by_cases hq : q = i.toNatClampNeg
  · subst hq
    simp [updV, va_up, va_rf]
  · simp [updV, va_up, hq]
theorem z_aastN {a n t : Nat} {C0 : String} {f : Nat → Option Nat} {i : Int32} (hd : decode Y.2.1 pc = .ok (.aastore, 1)) (hp : pc0 = pc) (ho : h.2 a = some (.inl (t, n, .inr (.inr (.inr (.inr f)))))) (ht : (zTys g)[t]? = some (g.2.2.1 t, .object C0)) (hi : vp_in i n) (k : zZ g Y Q (pc + 1) lv st (h.1, va_up h.2 a (some (.inl (t, n, .inr (.inr (.inr (.inr (va_up f i.toNatClampNeg none)))))))) ce sl) : zZ g Y Q pc0 lv (.null :: .int i :: .ref a :: st) h ce sl := by
  subst hp
  intro p e s m args below meth c H locs ls C hO hS hl
  have hlo := (hO.2 a _ ho).1
  refine va_WaastN (C := C0) C.1 C.2.1 (hO.at ho 0 _ rfl) ((C.K.2.1.2 t _ ht).1 n (fun j => va_rf (f j))) (fun h => by cases h) (by show ¬ (i < 0 ∨ (arrV _ _ _).slots.size ≤ _); rw [arrV_size]; exact hi) rfl rfl hd fun H1 e1 z oq => ?_
  refine k p e s m args below meth c H1 _ ls C (hO.set ho ?_ z oq) (hS.put z oq hlo) hl
  show H1[a]? = some (vp_cell _ _)
  rw [e1]
  show some ((vp_cell _ _).setSlot _ _) = _
  rw [vp_cell_q, vp_cell_q, arrV_store]
  congr 2
  funext q
  by_cases hq : q = i.toNatClampNeg
  · subst hq
    simp [updV, va_up, va_rf]
  · simp [updV, va_up, hq]
theorem z_new {index ci N : Nat} {C0 : String} {T : u_T} {fs : List Value} (ty : Nat → FieldType) (hin : ∀ w ∈ u_ws C0 T N, w ∈ lw_tbl) (hty : ∀ k, k < N → parseFieldDescriptor (T k).2.2.1 = some (ty k)) (hc : vwCl[ci]? = some (C0, T, N)) (w1 : Cond.classLink Y.1 index C0 ∈ lw_tbl) (w2 : Cond.instantiable C0 N ∈ lw_tbl) (w3 : Cond.initialized C0 ∈ lw_tbl) (hfs : ∀ j, j < N → defaultValue (ty j) = vp_V fs j) (hd : decode Y.2.1 pc = .ok (.new index, 3)) (hp : pc0 = pc) (hcells : ce + 1 ≤ Y.2.2.2.2.1.cells) (hslots : sl + N ≤ Y.2.2.2.2.1.slots) (k : zZ g Y Q (pc + 3) lv (.ref h.1 :: st) (h.1 + 1, va_up h.2 h.1 (some (.inr (ci, fs)))) (ce + 1) (sl + N)) : zZ g Y Q pc0 lv st h ce sl := by
  subst hp
  intro p e s m args below meth c H locs ls C hO hS hl
  have hKn := C.K.2.1.1 ci _ hc
  refine W.newcK C.1 C.2.1 C.own (C.K.word w1 rfl) (C.K.word w2 rfl) (C.K.word w3 rfl) rfl hd hcells hslots hKn.2.1 hO.1 fun H1 kC hkC e1 z1 o1 => ?_
  refine k p e s m args below meth c H1 locs ls C (hO.push (Nat.le_trans C.lo hS.1) ?_ z1 o1) (zS.push hS hO.1 z1 o1) hl
  exact ⟨_, hc, (u_born ty (C.K.lay (args := args) hin) (fun _ h => h) hKn hkC e1 hty).to hfs⟩
theorem z_newa {atype : ArrayType} {t : Nat} {ty : FieldType} {a0 : vp_A} {n : Int32} {N : Nat} (hty : newarray.typeOf atype = ty) (ht : (zTys g)[t]? = some (g.2.2.1 t, ty)) (hra : ∀ U cA, va_RA U cA ty → U.vm.findClass ("[" ++ ty.toString) = some cA) (w : Cond.arrayClass ty ∈ lw_tbl) (ha : ∀ cA : ClassId, vp_cell cA a0 = arrV cA N (fun _ => defaultValue ty)) (hd : decode Y.2.1 pc = .ok (.newarray atype, 2)) (hp : pc0 = pc) (hn : ¬ n < 0) (hN : n.toNatClampNeg = N) (hbytes : N * componentBytes ty ≤ 536870912) (hcells : ce + 1 ≤ Y.2.2.2.2.1.cells) (hslots : sl + N ≤ Y.2.2.2.2.1.slots) (k : zZ g Y Q (pc + 2) lv (.ref h.1 :: st) (h.1 + 1, va_up h.2 h.1 (some (.inl (t, a0)))) (ce + 1) (sl + N)) : zZ g Y Q pc0 lv (.int n :: st) h ce sl := by
  subst hp
  subst hty
  intro p e s m args below meth c H locs ls C hO hS hl
  refine va_newaK C.1 C.2.1 (C.K.word w rfl) rfl hd rfl hn hN hbytes hcells hslots hO.1 fun H1 cA e1 z1 o1 hAr hNm => ?_
  have hcA : cA = g.2.2.1 t := Option.some.inj (hNm.symm.trans (hra _ _ (C.K.2.1.2 t _ ht).2))
  subst hcA
  refine k p e s m args below meth c H1 locs ls C (hO.push (Nat.le_trans C.lo hS.1) ?_ z1 o1) (zS.push hS hO.1 z1 o1) hl
  show H1[h.1]? = some (vp_cell _ _)
  rw [ha]
  exact e1
theorem z_anew {index t : Nat} {C0 : String} {n : Int32} {N : Nat} (ht : (zTys g)[t]? = some (g.2.2.1 t, .object C0)) (w1 : Cond.classLink Y.1 index C0 ∈ lw_tbl) (hao : ∀ U, zK g U → va_AO C0 U) (hd : decode Y.2.1 pc = .ok (.anewarray index, 3)) (hp : pc0 = pc) (hn : ¬ n < 0) (hN : n.toNatClampNeg = N) (hbytes : N * 4 ≤ 536870912) (hcells : ce + 1 ≤ Y.2.2.2.2.1.cells) (hslots : sl + N ≤ Y.2.2.2.2.1.slots) (k : zZ g Y Q (pc + 3) lv (.ref h.1 :: st) (h.1 + 1, va_up h.2 h.1 (some (.inl (t, N, .inr (.inr (.inr (.inr (fun _ => none)))))))) (ce + 1) (sl + N)) : zZ g Y Q pc0 lv (.int n :: st) h ce sl := by
  subst hp
  subst hN
  intro p e s m args below meth c H locs ls C hO hS hl
  refine W.anew C.1 C.2.1 C.own (C.K.word w1 rfl) (va_AO.use (hao s C.K)) rfl hd rfl hn hbytes hcells hslots fun cA kA comp f1 f2 f3 f4 => ?_
  generalize hH1 : H.push ({ cls := cA, slots := Array.replicate n.toNatClampNeg .null, vm := .none } : Cell) = H1
  have z1 : H1.size = H.size + 1 := by rw [← hH1, Array.size_push]
  have e1 : H1[H.size]? = some (arrV cA n.toNatClampNeg (fun _ => .null)) := by rw [← hH1, Array.getElem?_push_size, ← arrV_new]
  have o1 : ∀ q : Nat, q < H.size → H1[q]? = H[q]? := fun q hq => by rw [← hH1, Array.getElem?_push, if_neg (Nat.ne_of_lt hq)]
  rw [hO.1] at z1 e1 o1 ⊢
  obtain ⟨kA', comp', k1, k2, k3, k4⟩ := (C.K.2.1.2 t _ ht).2
  have hcA : cA = g.2.2.1 t := Option.some.inj (f1.symm.trans k4)
  subst hcA
  refine k p e s m args below meth c H1 locs ls C (hO.push (Nat.le_trans C.lo hS.1) ?_ z1 o1) (zS.push hS hO.1 z1 o1) hl
  exact e1
/-- behind a call -/
theorem z_run {p : Program} {e : Env} {R : Room} {s : State} {m : MethodId} {args : Array Value} {below : List Frame} {meth : Method} {c : Code} {H : Heap} {locs : List Loc} {cells slots mc ms pc : Nat} {ls : Array Slot} {st0 rest : List Value} {Q : State → Prop} {post : Option Value → zH → Prop} {a : Array Value}
    (hr : va_Run p g.1 e R s m args below meth c H locs cells slots mc ms (F0 m pc ls st0) rest (zQ g post a) (fun q => g.2.2.2 ≤ q)) (hS : va_S (fun q => g.2.2.2 ≤ q) s.heap H locs)
    (kk : ∀ (v : Option Value) (h1 : zH) (H1 : Heap) (locs1 : List Loc), post v h1 → zOk g h1 H1 → va_S (fun q => g.2.2.2 ≤ q) s.heap H1 locs1 → W p g.1 e R s m args below meth c H1 locs1 (cells + mc) (slots + ms) Q (F0 m (pc + 3) ls (v.toList ++ rest))) : W p g.1 e R s m args below meth c H locs cells slots Q (F0 m pc ls st0) := by
  intro T hT X
  obtain ⟨v, st₀, t, T', L, h0, X', hL, e1, e2, ⟨w, h1, hv, hp, hO1, hz, hk⟩, stp⟩ := hr T hT X
  cases hv
  rw [h0] at hz hk
  obtain ⟨t2, a1, b1⟩ := kk v h1 T'.heap (locs ++ L) hp (by rw [e1]; exact hO1)
    ⟨Nat.le_trans hS.1 (by rw [e1]; exact hz), fun q h1 h2 => by rw [e1, hk q (Nat.lt_of_lt_of_le h1 hS.1) h2]; exact hS.2.1 q h1 h2, fun q hq => by
      rcases List.mem_append.mp hq with h | h
      · exact hS.2.2 q h
      · exact hL q h⟩ T' rfl X'
  exact ⟨t2, stp t2 a1, b1⟩
theorem z_blind {av : List Value} {h : zH} : FrameBlind (va_Pc av (fun U => zOk g h U.heap ∧ zK g U ∧ g.2.2.2 ≤ U.heap.size)) :=
  fun a U f mk q => ⟨q.1, q.2.1, zK.warm (s := U) (U := U.calling f mk a) (State.WarmedH.refl U) q.2.2.1, q.2.2.2⟩
theorem z_good {y : MethodName} {cc : ByteArray} {maxL : Nat} {ret : Option FieldType} {s : State} {args : Array Value} (hK : zK g s) (w4 : Cond.code y cc maxL ret ∈ lw_tbl) : ∀ w ∈ [Cond.code y cc maxL ret], ∀ (a' : Array Value) (U : State), s.WarmedH U.vm → w.before a' U = true := by
  intro w hw a' U hW
  cases List.mem_singleton.mp hw
  exact (zK.warm hW hK).word w4 rfl
theorem z_cb {y : MethodName} {cc : ByteArray} {maxL : Nat} {ret : Option FieldType} {rm R : Room} {n index : Nat} {s : State} {args : Array Value} {own : String} (hK : zK g s) (w1 : Cond.methodLink own index y ∈ lw_tbl) (w3 : Cond.initialized y.cls ∈ lw_tbl) (w4 : Cond.code y cc maxL ret ∈ lw_tbl) (hdn : y.cls ≠ "java/lang/invoke/MethodHandle" ∧ y.cls ≠ "java/lang/invoke/VarHandle" ∧ (parseMethodDescriptor y.desc).map (fun d => d.parameters.length) = some n) (hR : rm.frames + 1 ≤ R.frames ∧ 8 + (maxL + 11) + rm.locals ≤ R.locals) : CallB R s args own index y cc maxL ret [.code y cc maxL ret] rm rm.cells rm.slots n :=
  ⟨rfl, rfl, hR.1, hR.2, z_good (args := args) hK w4, List.mem_singleton.mpr rfl, hK.word w4 rfl, hK.word w3 rfl, ⟨hdn.1, hdn.2.1⟩, fun sig hs => by have h2 := hdn.2.2; rw [hs] at h2; exact (Option.some.inj h2).symm, hK.word w1 rfl⟩
theorem z_callS {y : MethodName} {cc : ByteArray} {maxL : Nat} {ret : Option FieldType} {rm : Room} {av rest st0 : List Value} {post : Option Value → zH → Prop} {index : Nat} (w1 : Cond.methodLink Y.1 index y ∈ lw_tbl) (w2 : Cond.static y ∈ lw_tbl) (w3 : Cond.initialized y.cls ∈ lw_tbl) (w4 : Cond.code y cc maxL ret ∈ lw_tbl) (n : Nat) (hdn : y.cls ≠ "java/lang/invoke/MethodHandle" ∧ y.cls ≠ "java/lang/invoke/VarHandle" ∧ (parseMethodDescriptor y.desc).map (fun d => d.parameters.length) = some n) (hd : decode Y.2.1 pc = .ok (.invokestatic index, 3)) (hp : pc0 = pc) (hM : zM g y cc maxL ret rm av h post) (hs : st0 = av.reverse ++ rest) (hn : av.length = n) (hR : rm.frames + 1 ≤ Y.2.2.2.2.1.frames ∧ 8 + (maxL + 11) + rm.locals ≤ Y.2.2.2.2.1.locals) (hf : ce + rm.cells ≤ Y.2.2.2.2.1.cells ∧ sl + rm.slots ≤ Y.2.2.2.2.1.slots) (hw : (rest.map fun v => v.category).sum ≤ 8)
    (k : ∀ v h1, post v h1 → zZ g Y Q (pc + 3) lv (v.toList ++ rest) h1 (ce + rm.cells) (sl + rm.slots)) : zZ g Y Q pc0 lv st0 h ce sl := by
  subst hp
  intro p e s m args below meth c H locs ls C hO hS hl
  have hlo : g.2.2.2 ≤ H.size := Nat.le_trans C.lo hS.1
  exact z_run (va_runS (Ts := []) (nL := Y.2.2.1) (own := Y.1) ⟨C.1, C.2.1, C.2.2.1, C.own, fun w hw => by cases hw⟩ hM ⟨z_cb C.K w1 w3 w4 hdn hR, C.K.word w2 rfl⟩ ⟨z_blind, fun U hU hW => ⟨rfl, by rw [hU]; exact hO, zK.warm hW C.K, by rw [hU]; exact hlo⟩⟩ rfl hn hl.1 hs (lv_room hw) hd hf) hS (fun v h1 H1 locs1 hp hO1 hS1 => k v h1 hp p e s m args below meth c H1 locs1 ls C hO1 hS1 hl)
theorem z_recv {s : State} {H : Heap} {a ci : Nat} {q : vw_C} {fs : List Value} (hK : zK g s) (hO : zOk g h H) (hc : vwCl[ci]? = some q) (ho : h.2 a = some (.inr (ci, fs))) : ∃ cell : Cell, H[a]? = some cell ∧ cell.vm.isStatics = false ∧ s.vm.findClass q.1 = some cell.cls := va_recv hK.2.1 (hO.at ho) hc (q0 := 0) rfl
theorem z_callV {y : MethodName} {cc : ByteArray} {maxL : Nat} {ret : Option FieldType} {rm : Room} {As rest st0 : List Value} {b ci : Nat} {q : vw_C} {fs : List Value} {post : Option Value → zH → Prop} {index : Nat} (w1 : Cond.methodLink Y.1 index y ∈ lw_tbl) (w2 : Cond.instanceMethod y ∈ lw_tbl) (w3 : Cond.initialized y.cls ∈ lw_tbl) (w4 : Cond.code y cc maxL ret ∈ lw_tbl) (w5 : Cond.selects y.cls y y ∈ lw_tbl) (n : Nat) (hdn : y.cls ≠ "java/lang/invoke/MethodHandle" ∧ y.cls ≠ "java/lang/invoke/VarHandle" ∧ (parseMethodDescriptor y.desc).map (fun d => d.parameters.length) = some n) (hc : vwCl[ci]? = some q) (hq : q.1 = y.cls) (hd : decode Y.2.1 pc = .ok (.invokevirtual index, 3)) (hp : pc0 = pc) (ho : h.2 b = some (.inr (ci, fs))) (hM : zM g y cc maxL ret rm (.ref b :: As) h post) (hs : st0 = As.reverse ++ .ref b :: rest) (hn : As.length = n) (hR : rm.frames + 1 ≤ Y.2.2.2.2.1.frames ∧ 8 + (maxL + 11) + rm.locals ≤ Y.2.2.2.2.1.locals) (hf : ce + rm.cells ≤ Y.2.2.2.2.1.cells ∧ sl + rm.slots ≤ Y.2.2.2.2.1.slots) (hw : (rest.map fun v => v.category).sum ≤ 8)
    (k : ∀ v h1, post v h1 → zZ g Y Q (pc + 3) lv (v.toList ++ rest) h1 (ce + rm.cells) (sl + rm.slots)) : zZ g Y Q pc0 lv st0 h ce sl := by
  subst hp
  intro p e s m args below meth c H locs ls C hO hS hl
  have hlo : g.2.2.2 ≤ H.size := Nat.le_trans C.lo hS.1
  exact z_run (va_runV (C := y.cls) (Ts := []) (nL := Y.2.2.1) (own := Y.1) ⟨C.1, C.2.1, C.2.2.1, C.own, fun w hw => by cases hw⟩ hM ⟨z_cb C.K w1 w3 w4 hdn hR, C.K.word w2 rfl, C.K.word w5 rfl⟩ ⟨z_blind, by rw [← hq]; exact z_recv C.K hO hc ho, fun U hU hW => ⟨rfl, by rw [hU]; exact hO, zK.warm hW C.K, by rw [hU]; exact hlo⟩⟩ rfl hn hl.1 hs (lv_room hw) hd hf) hS (fun v h1 H1 locs1 hp hO1 hS1 => k v h1 hp p e s m args below meth c H1 locs1 ls C hO1 hS1 hl)
theorem z_callI {y : MethodName} {cc : ByteArray} {maxL : Nat} {rm : Room} {As rest st0 : List Value} {b : Nat} {post : Option Value → zH → Prop} {index : Nat} (w1 : Cond.methodLink Y.1 index y ∈ lw_tbl) (w2 : Cond.instanceMethod y ∈ lw_tbl) (w3 : Cond.initialized y.cls ∈ lw_tbl) (w4 : Cond.code y cc maxL none ∈ lw_tbl) (n : Nat) (hdn : y.cls ≠ "java/lang/invoke/MethodHandle" ∧ y.cls ≠ "java/lang/invoke/VarHandle" ∧ (parseMethodDescriptor y.desc).map (fun d => d.parameters.length) = some n) (hyn : y.name = "<init>") (hd : decode Y.2.1 pc = .ok (.invokespecial index, 3)) (hp : pc0 = pc) (hM : zM g y cc maxL none rm (.ref b :: As) h post) (hs : st0 = As.reverse ++ .ref b :: rest) (hn : As.length = n) (hR : rm.frames + 1 ≤ Y.2.2.2.2.1.frames ∧ 8 + (maxL + 11) + rm.locals ≤ Y.2.2.2.2.1.locals) (hf : ce + rm.cells ≤ Y.2.2.2.2.1.cells ∧ sl + rm.slots ≤ Y.2.2.2.2.1.slots) (hw : (rest.map fun v => v.category).sum ≤ 8)
    (k : ∀ v h1, post v h1 → zZ g Y Q (pc + 3) lv (v.toList ++ rest) h1 (ce + rm.cells) (sl + rm.slots)) : zZ g Y Q pc0 lv st0 h ce sl := by
  subst hp
  intro p e s m args below meth c H locs ls C hO hS hl
  have hlo : g.2.2.2 ≤ H.size := Nat.le_trans C.lo hS.1
  exact z_run (va_runI (Ts := []) (nL := Y.2.2.1) (own := Y.1) ⟨C.1, C.2.1, C.2.2.1, C.own, fun w hw => by cases hw⟩ hM ⟨z_cb C.K w1 w3 w4 hdn hR, hyn, C.K.word w2 rfl⟩ ⟨z_blind, fun U hU hW => ⟨rfl, by rw [hU]; exact hO, zK.warm hW C.K, by rw [hU]; exact hlo⟩⟩ rfl hn hl.1 hs (lv_room hw) hd hf) hS (fun v h1 H1 locs1 hp hO1 hS1 => k v h1 hp p e s m args below meth c H1 locs1 ls C hO1 hS1 hl)
theorem z_objInit {index a : Nat} (w1 : Cond.methodLink Y.1 index Lib.objectInit ∈ lw_tbl) (w2 : Cond.instanceMethod Lib.objectInit ∈ lw_tbl) (w3 : Cond.code Lib.objectInit ⟨#[0xb1]⟩ 1 none ∈ lw_tbl) (hd : decode Y.2.1 pc = .ok (.invokespecial index, 3)) (hp : pc0 = pc) (hf : 1 ≤ Y.2.2.2.2.1.frames) (hlc : (st.map fun v => v.category).sum + 12 ≤ Y.2.2.2.2.1.locals) (k : zZ g Y Q (pc + 3) lv st h ce sl) : zZ g Y Q pc0 lv (.ref a :: st) h ce sl := by
  subst hp
  intro p e s m args below meth c H locs ls C hO hS hl
  exact W.objInit C.1 C.2.1 C.own (C.K.word w1 rfl) (C.K.word w2 rfl) (C.K.word w3 rfl) rfl (hl.1.trans C.2.2.1.symm) rfl hd hf (by show 2 * 0 + _ + 12 ≤ _; omega) (k p e s m args below meth c H locs ls C hO hS hl)
theorem z_mmax {index : Nat} {x y : Int32} (w1 : Cond.methodLink Y.1 index Lib.Math.max.name ∈ lw_tbl) (w2 : Cond.static Lib.Math.max.name ∈ lw_tbl) (w3 : Cond.initialized "java/lang/Math" ∈ lw_tbl) (w4 : Cond.code Lib.Math.max.name Lib.Math.max.code 2 (some .int) ∈ lw_tbl) (hd : decode Y.2.1 pc = .ok (.invokestatic index, 3)) (hp : pc0 = pc) (hf : 1 ≤ Y.2.2.2.2.1.frames) (hlc : (st.map fun v => v.category).sum + 13 ≤ Y.2.2.2.2.1.locals) (hc : ce ≤ Y.2.2.2.2.1.cells) (hs : sl ≤ Y.2.2.2.2.1.slots) (k : zZ g Y Q (pc + 3) lv (.int (if x < y then y else x) :: st) h ce sl) : zZ g Y Q pc0 lv (.int y :: .int x :: st) h ce sl := by
  subst hp
  intro p e s m args below meth c H locs ls C hO hS hl
  exact va_mmax C.1 C.2.1 (C.2.2.1.trans hl.1.symm) C.own (C.K.word w1 rfl) (C.K.word w2 rfl) (C.K.word w3 rfl) (C.K.word w4 rfl) hf hlc hc hs hd (k p e s m args below meth c H locs ls C hO hS hl)
theorem z_mmin {index : Nat} {x y : Int32} (w1 : Cond.methodLink Y.1 index Lib.Math.min.name ∈ lw_tbl) (w2 : Cond.static Lib.Math.min.name ∈ lw_tbl) (w3 : Cond.initialized "java/lang/Math" ∈ lw_tbl) (w4 : Cond.code Lib.Math.min.name Lib.Math.min.code 2 (some .int) ∈ lw_tbl) (hd : decode Y.2.1 pc = .ok (.invokestatic index, 3)) (hp : pc0 = pc) (hf : 1 ≤ Y.2.2.2.2.1.frames) (hlc : (st.map fun v => v.category).sum + 13 ≤ Y.2.2.2.2.1.locals) (hc : ce ≤ Y.2.2.2.2.1.cells) (hs : sl ≤ Y.2.2.2.2.1.slots) (k : zZ g Y Q (pc + 3) lv (.int (if y < x then y else x) :: st) h ce sl) : zZ g Y Q pc0 lv (.int y :: .int x :: st) h ce sl := by
  subst hp
  intro p e s m args below meth c H locs ls C hO hS hl
  exact va_mmin C.1 C.2.1 (C.2.2.1.trans hl.1.symm) C.own (C.K.word w1 rfl) (C.K.word w2 rfl) (C.K.word w3 rfl) (C.K.word w4 rfl) hf hlc hc hs hd (k p e s m args below meth c H locs ls C hO hS hl)

theorem z_iret {v : Int32} {post : Option Value → zH → Prop} {mc ms : Nat} (hd : decode Y.2.1 pc = .ok (.ireturn, 1)) (hp : pc0 = pc) (hr : Y.2.2.2.1 = some .int) (hq : post (some (.int v)) h) (hc : ce ≤ mc) (hs : sl ≤ ms) : zZ g Y (zE g post mc ms) pc0 lv [.int v] h ce sl := by
  subst hp
  intro p e s m args below meth c H locs ls C hO hS hl
  refine W.widen hc hs ?_
  have hlk := C.locks
  exact W.iret C.1 C.2.1 (C.2.2.2.1.trans hr) (fun t ht hW => ⟨_, h, rfl, hq, by rw [ht]; exact hO, hS.F ht⟩) (fun q hq => hS.2.2 q hq) hd
theorem z_zret {v : Int32} {post : Option Value → zH → Prop} {mc ms : Nat} {ty : FieldType} (hd : decode Y.2.1 pc = .ok (.ireturn, 1)) (hp : pc0 = pc) (hr : Y.2.2.2.1 = some ty) (hn : narrow ty (.int v) = .int v) (hq : post (some (.int v)) h) (hc : ce ≤ mc) (hs : sl ≤ ms) : zZ g Y (zE g post mc ms) pc0 lv [.int v] h ce sl := by
  subst hp
  intro p e s m args below meth c H locs ls C hO hS hl
  refine W.widen hc hs ?_
  have hlk := C.locks
  exact W.zret C.1 C.2.1 (C.2.2.2.1.trans hr) hn (fun t ht hW => ⟨_, h, rfl, hq, by rw [ht]; exact hO, hS.F ht⟩) (fun q hq => hS.2.2 q hq) hd
theorem z_lret {v : Int64} {post : Option Value → zH → Prop} {mc ms : Nat} (hd : decode Y.2.1 pc = .ok (.lreturn, 1)) (hp : pc0 = pc) (hr : Y.2.2.2.1 = some .long) (hq : post (some (.long v)) h) (hc : ce ≤ mc) (hs : sl ≤ ms) : zZ g Y (zE g post mc ms) pc0 lv [.long v] h ce sl := by
  subst hp
  intro p e s m args below meth c H locs ls C hO hS hl
  refine W.widen hc hs ?_
  have hlk := C.locks
  exact W.lret C.1 C.2.1 (C.2.2.2.1.trans hr) (fun t ht hW => ⟨_, h, rfl, hq, by rw [ht]; exact hO, hS.F ht⟩) (fun q hq => hS.2.2 q hq) hd
theorem z_fret {v : UInt32} {post : Option Value → zH → Prop} {mc ms : Nat} (hd : decode Y.2.1 pc = .ok (.freturn, 1)) (hp : pc0 = pc) (hr : Y.2.2.2.1 = some .float) (hq : post (some (.float v)) h) (hc : ce ≤ mc) (hs : sl ≤ ms) : zZ g Y (zE g post mc ms) pc0 lv [.float v] h ce sl := by
  subst hp
  intro p e s m args below meth c H locs ls C hO hS hl
  refine W.widen hc hs ?_
  have hlk := C.locks
  exact W.fret C.1 C.2.1 (C.2.2.2.1.trans hr) (fun t ht hW => ⟨_, h, rfl, hq, by rw [ht]; exact hO, hS.F ht⟩) (fun q hq => hS.2.2 q hq) hd
theorem z_dret {v : UInt64} {post : Option Value → zH → Prop} {mc ms : Nat} (hd : decode Y.2.1 pc = .ok (.dreturn, 1)) (hp : pc0 = pc) (hr : Y.2.2.2.1 = some .double) (hq : post (some (.double v)) h) (hc : ce ≤ mc) (hs : sl ≤ ms) : zZ g Y (zE g post mc ms) pc0 lv [.double v] h ce sl := by
  subst hp
  intro p e s m args below meth c H locs ls C hO hS hl
  refine W.widen hc hs ?_
  have hlk := C.locks
  exact W.dret C.1 C.2.1 (C.2.2.2.1.trans hr) (fun t ht hW => ⟨_, h, rfl, hq, by rw [ht]; exact hO, hS.F ht⟩) (fun q hq => hS.2.2 q hq) hd
theorem z_aret {v : Nat} {post : Option Value → zH → Prop} {mc ms : Nat} {rt : FieldType} (hd : decode Y.2.1 pc = .ok (.areturn, 1)) (hp : pc0 = pc) (hr : Y.2.2.2.1 = some rt) (hrt : (∃ n, rt = .object n) ∨ ∃ t, rt = .array t) (hq : post (some (.ref v)) h) (hc : ce ≤ mc) (hs : sl ≤ ms) : zZ g Y (zE g post mc ms) pc0 lv [.ref v] h ce sl := by
  subst hp
  intro p e s m args below meth c H locs ls C hO hS hl
  refine W.widen hc hs ?_
  have hlk := C.locks
  exact W.aret C.1 C.2.1 (C.2.2.2.1.trans hr) hrt (Or.inr ⟨_, rfl⟩) (fun t ht hW => ⟨_, h, rfl, hq, by rw [ht]; exact hO, hS.F ht⟩) (fun q hq => hS.2.2 q hq) hd
theorem z_vret {post : Option Value → zH → Prop} {mc ms : Nat} (hd : decode Y.2.1 pc = .ok (.return_, 1)) (hp : pc0 = pc) (hr : Y.2.2.2.1 = none) (hq : post none h) (hc : ce ≤ mc) (hs : sl ≤ ms) : zZ g Y (zE g post mc ms) pc0 lv [] h ce sl := by
  subst hp
  intro p e s m args below meth c H locs ls C hO hS hl
  refine W.widen hc hs ?_
  have hlk := C.locks
  exact W.vret C.1 C.2.1 (C.2.2.2.1.trans hr) (fun t ht hW => ⟨_, h, rfl, hq, by rw [ht]; exact hO, hS.F ht⟩) (fun q hq => hS.2.2 q hq) hd
end ZZ
/-- a contract out of a walk -/
theorem zM_of {g : zG} {y : MethodName} {cc : ByteArray} {maxL : Nat} {ret : Option FieldType} {rm : Room} {av : List Value} {h : zH} {post : Option Value → zH → Prop} (hy : plainName y.cls = true) (hlen : (lg_sl av).length ≤ maxL) (k : zZ g (y.cls, cc, maxL, ret, rm, y.name, fun _ _ => True) (zE g post rm.cells rm.slots) 0 (lv_args 0 av) [] h 0 0) : zM g y cc maxL ret rm av h post := by
  refine Met.ofW (cc := cc) (maxL := maxL) (ret := ret) hy rfl ?_
  intro p e s m args below meth c s₁ B hml hv
  obtain ⟨rfl, hO, hK, hlo⟩ := hv
  have hl := lv_entry av (n := maxL) hlen
  rw [lg_entry_eq]
  generalize (lg_sl av ++ List.replicate (maxL - (lg_sl av).length) Slot.unset).toArray = ls at hl ⊢
  exact k p e s m _ below meth c s.heap [] ls ⟨B.exec, B.bytes, hml, B.returns, findClass_of_methodNamed B.named, B.notSynchronized, (name_of_methodNamed B.named B.method).1, hK, hlo, trivial⟩ hO va_S.rf hl
/-- a weaker end -/
theorem zM.mono {g : zG} {y : MethodName} {cc : ByteArray} {maxL : Nat} {ret : Option FieldType} {rm : Room} {av : List Value} {h : zH} {post post' : Option Value → zH → Prop} (hM : zM g y cc maxL ret rm av h post) (hq : ∀ v h1, post v h1 → post' v h1) : zM g y cc maxL ret rm av h post' := by
  unfold zM Met at *
  refine MetFree.mono hM (fun _ _ h => h) (fun _ _ _ _ _ h => h) ?_
  intro a st o t _ hh
  obtain ⟨⟨v, h1, a1, a2, a3⟩, L⟩ := hh
  exact ⟨⟨v, h1, a1, hq _ _ a2, a3⟩, L⟩

