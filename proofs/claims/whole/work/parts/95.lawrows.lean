def R_law : String := "LoggerTwinsLaw"
def lw_P (b : Addr) (xs : List Int32) (args : Array Value) (s : State) : Prop := args = #[.ref b] ∧ s.IntsAt b xs ∧ xs.length ≤ 3072 ∧ (Jvm.Cond.and given_1 narrow_1).before args s = true
/-- what a walk over the start with the record d0 says of its end, said of the start itself -/
theorem lw_closed {s t : State} {o : Outcome} {d0 : Drawn} {L : List Loc} {k n : Nat} (hd0 : s.drawn.sameBut d0 lw_cs) (hv : ∃ v, o = .returned v) (hW : (s.setDrawn d0).WarmedH t.vm) (hs : (s.setDrawn d0).sameButNew ({ t with vm := s.vm } : State) L k n) : State.butDraws s t lw_cs (fun t1 => Framed s o t1 L k n) := by
  have h2 : t.drawn = d0 := congrArg State.drawn hs.1
  refine ⟨⟨hv, hW, State.sameButNew.setDrawn hs s.drawn⟩, ?_, by decide⟩
  rw [h2]
  exact hd0
def lw_Q (_ : Array Value) (s : State) (o : Outcome) (t : State) : Prop := o = .returned (some (.int 1)) ∧ State.butDraws s t lw_cs (fun t1 => Framed s o t1 [] 600000 7302250)
def lw_Z (below : List Frame) (a : Array Value) (s : State) : State → Prop := fun t => ∃ o, t.status = .running ∧ Ended t below o ∧ lw_Q a s o t
/-- the law's own end, with 1 on the stack, nothing written that was there before, its room as the claim has it; d0: the record of draws at this point (at the entry s.drawn: begin with 'refine W.base ?_' and 'have hd0 := Drawn.sameBut.refl s.drawn lw_cs') -/
theorem lw_ret {p : Program} {l : Launch} {e : Env} {s : State} {m : MethodId} {below : List Frame} {meth : Method} {c : Code} {b : Nat} {d0 : Drawn} (hd0 : s.drawn.sameBut d0 lw_cs) (hx : p.tables.exec = Jvm.exec) (hb : c.code = code) (hr : meth.sig.returnType = ret) (hlocks : meth.locks = false) {pc : Nat} {H : Heap} {ls : Array Slot} (hdg : decode code pc = .ok (.ireturn, 1)) : W p l e room_1 (s.setDrawn d0) m #[Value.ref b] below meth c H [] 600000 7302250 (lw_Z below #[Value.ref b] s) (F0 m pc ls [.int 1]) := by
  intro T hT X
  obtain ⟨fs, hret, hrun, hended, hW, hframe⟩ := X.leave (v := some (.int 1)) (hlocks := hlocks) (fun h => by rw [hr] at h; cases h)
  have hmeth' : T.vm.method? m = some meth := X.method'
  refine ⟨T.setFrames fs, ?_, .returned (some (.int 1)), hrun, hended, rfl, lw_closed hd0 ⟨_, rfl⟩ hW hframe⟩
  jvm_step X.here [X.here.top, hx, hb, hdg, hmeth', hr, ret, narrow_b1]
  (try refine ⟨rfl, ?_⟩); (try refine ⟨rfl, ?_⟩)
  first | (intro acts; rw [hret _ acts rfl rfl rfl]) | rw [hret _ _ rfl rfl rfl]
  exact Steps.refl _
/-- what holds at the law's entry: the machine, the code, the tables' words (any of lw_tbl by 'hts w (by decide +kernel)'), the script of L ints xs at the cell b, what the Statement gives of the start (any of its parts by flat_of_before) -/
def lw_At (p : Program) (s : State) (m : MethodId) (meth : Method) (c : Code) (b L : Nat) (xs : Nat → Int32) : Prop :=
  p.tables.exec = Jvm.exec ∧ c.code = code ∧ meth.sig.returnType = ret ∧ c.maxLocals = 4 ∧ s.vm.findClass R_law = some m.cls ∧ (∀ w ∈ lw_tbl, w.before #[Value.ref b] s = true) ∧ va_X b L xs s s.heap ∧ b < s.heap.size ∧ meth.locks = false ∧ (Jvm.Cond.and given_1 narrow_1).before #[Value.ref b] s = true
/-- the law's own walk: the script of L ints at b, which lies ahead of all that is new -/
abbrev YL (b L n0 : Nat) (xs : Nat → Int32) (nm : String) : zY := (R_law, code, 4, ret, room_1, nm, fun args s => args = #[Value.ref b] ∧ s.heap.size = n0 ∧ va_X b L xs s s.heap ∧ b < n0)
abbrev QL : Array Value → List Frame → State → State → Prop := fun args below s => lw_Z below args s
section ZL
variable {g : zG} {b L n0 : Nat} {xs : Nat → Int32} {nm : String} {Q : Array Value → List Frame → State → State → Prop} {pc pc0 : Nat} {lv : List (Nat × Value)} {st : List Value} {h : zH} {ce sl : Nat}
theorem z_sld {i : Int32} (hg : g.2.2.2 = n0) (hd : decode code pc = .ok (.iaload, 1)) (hp : pc0 = pc) (hi : vp_in i L) (k : zZ g (YL b L n0 xs nm) Q (pc + 1) lv (.int (xs i.toNatClampNeg) :: st) h ce sl) : zZ g (YL b L n0 xs nm) Q pc0 lv (.int i :: .ref b :: st) h ce sl := by
  subst hp
  intro p e s m args below meth c H locs ls C hO hS hl
  obtain ⟨-, hz, hX, hb⟩ := C.2.2.2.2.2.2.2.2.2
  exact va_sld (A := fun q => g.2.2.2 ≤ q) C.1 C.2.1 hX (by rw [hz]; exact hb) (by show ¬ g.2.2.2 ≤ b; omega) hS hi hd (k p e s m args below meth c H locs ls C hO hS hl)
theorem z_slen (hg : g.2.2.2 = n0) (hd : decode code pc = .ok (.arraylength, 1)) (hp : pc0 = pc) (k : zZ g (YL b L n0 xs nm) Q (pc + 1) lv (.int (Int32.ofNat L) :: st) h ce sl) : zZ g (YL b L n0 xs nm) Q pc0 lv (.ref b :: st) h ce sl := by
  subst hp
  intro p e s m args below meth c H locs ls C hO hS hl
  obtain ⟨-, hz, hX, hb⟩ := C.2.2.2.2.2.2.2.2.2
  exact va_slen (A := fun q => g.2.2.2 ≤ q) C.1 C.2.1 hX (by rw [hz]; exact hb) (by show ¬ g.2.2.2 ≤ b; omega) hS hd (k p e s m args below meth c H locs ls C hO hS hl)
theorem z_lawret (hg : g.2.2.2 = n0) (hd : decode code pc = .ok (.ireturn, 1)) (hp : pc0 = pc) (hce : ce ≤ 600000) (hsl : sl ≤ 7302250) : zZ g (YL b L n0 xs nm) QL pc0 lv [.int 1] h ce sl := by
  subst hp
  intro p e s m args below meth c H locs ls C hO hS hl
  obtain ⟨rfl, hz, -, -⟩ := C.2.2.2.2.2.2.2.2.2
  refine W.widen hce hsl ?_
  refine va_forget (fun q hq => ?_) ?_
  · rw [hz, ← hg]; exact hS.2.2 q hq
  exact W.base (lw_ret (d0 := s.drawn) (Drawn.sameBut.refl s.drawn lw_cs) C.1 C.2.1 C.2.2.2.1 C.locks hd)
end ZL
theorem nI_j (i j : Nat) : nI i + nI j = nI (i + j) := (Int32.ofNat_add i j).symm
theorem in_j {i L : Nat} (j : Nat) (hj : j < 6) (hi : i + 6 ≤ L) (hL : L ≤ 3072) : vp_in (nI i + nI j) L := by
  rw [nI_j]
  exact vp_in_nI (by omega) (by omega)
theorem law_gt {i L : Nat} (hi : i < 10000) (hL : L ≤ 3072) : Int32.ofNat L - 6 < nI i ↔ L < i + 6 := by
  have e1 : (nI i).toInt = i := nI_toInt (by omega)
  have e2 : (Int32.ofNat L).toInt = L := nI_toInt (by omega)
  have e3 : (Int32.ofNat L - 6).toInt = (L : Int) - 6 := by
    rw [Int32.toInt_sub, e2, show (6 : Int32).toInt = 6 from rfl]
    exact Int.bmod_eq_of_le (by omega) (by omega)
  rw [Int32.lt_iff_toInt_lt, e1, e3]
  omega
theorem RepC_x {h : zH} {x m : Nat} {w : sW} (hR : RepC h x m w) : ∃ fs, h.2 x = some (.inr (6, fs)) := by
  obtain ⟨col, p, F, Z, k, I, P, q, T, V, a1, a2, a3, a4, a5, a6⟩ := hR
  exact ⟨_, a3.1⟩

