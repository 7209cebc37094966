/-- an array of N rows at b, its rows behind it -/
def gF (b N M : Nat) (f : Nat → Option zOb) : Nat → Option zOb := fun q => if q = b then some (.inl (7, N, .inr (.inr (.inr (.inr (fun j => if j < N then some (b + 1 + j) else none)))))) else if b < q ∧ q ≤ b + N then some (.inl (0, M, .inl (fun _ => 0))) else f q
theorem gF_o {b N M : Nat} {f : Nat → Option zOb} : gF b N M f b = some (.inl (7, N, .inr (.inr (.inr (.inr (fun j => if j < N then some (b + 1 + j) else none)))))) := if_pos rfl
theorem gF_r {b N M q : Nat} {f : Nat → Option zOb} (h1 : b < q) (h2 : q ≤ b + N) : gF b N M f q = some (.inl (0, M, .inl (fun _ => 0))) := by
  unfold gF
  rw [if_neg (by omega), if_pos ⟨h1, h2⟩]
theorem gF_n {b N M q : Nat} {f : Nat → Option zOb} (h : q < b ∨ b + N < q) : gF b N M f q = f q := by
  unfold gF
  rw [if_neg (by omega), if_neg (by omega)]
theorem outC_eq (c : ClassId) (N h0 : Nat) : ∀ i, Jvm.Free.Multi.outerC c N h0 i = arrV c N (fun j => va_rf (if j < i then some (h0 + 1 + j) else none))
  | 0 => by
    show ({ cls := c, slots := Array.replicate N .null, vm := .none } : Cell) = _
    rw [arrV_new]
    congr 1
  | i + 1 => by
    show (Jvm.Free.Multi.outerC c N h0 i).setSlot i (.ref (h0 + 1 + i)) = _
    rw [outC_eq c N h0 i, arrV_store]
    congr 1
    funext j
    show (if j = i then _ else va_rf (if j < i then some (h0 + 1 + j) else none)) = _
    by_cases e : j = i
    · subst e; rw [if_pos rfl, if_pos (by omega)]; rfl
    · rw [if_neg e]
      by_cases e2 : j < i
      · rw [if_pos e2, if_pos (by omega)]
      · rw [if_neg e2, if_neg (by omega)]
section ZM
variable {g : zG} {Y : zY} {Q : Array Value → List Frame → State → State → Prop} {pc pc0 : Nat} {lv : List (Nat × Value)} {st : List Value} {h : zH} {ce sl : Nat}
theorem z_mna {n k : Int32} {N M : Nat} (hY : Y.1 = RX0) (hd : decode Y.2.1 pc = .ok (.multianewarray 18 2, 4)) (hp : pc0 = pc) (hn : ¬ n < 0) (hk : ¬ k < 0) (hN : n.toNatClampNeg = N) (hM : k.toNatClampNeg = M) (hb : N ≤ 1000) (hb2 : M ≤ 1000) (hcells : ce + (1 + N) ≤ Y.2.2.2.2.1.cells) (hslots : sl + (N + N * M) ≤ Y.2.2.2.2.1.slots) (kk : zZ g Y Q (pc + 4) lv (.ref h.1 :: st) (h.1 + 1 + N, gF h.1 N M h.2) (ce + 1 + N) (sl + N + N * M)) : zZ g Y Q pc0 lv (.int k :: .int n :: st) h ce sl := by
  subst hp hN hM
  intro p e s m args below meth c H locs ls C hO hS hl
  intro T hT X
  obtain ⟨vm₁, cA, comp, hW, hfA, hfC, hO1, hI, X1, stp⟩ := X.multianewarray2F (g := F0 m _ ls (.int k :: .int n :: st)) (n := n) (k := k) (rest := st) (own := Y.1) (index := 18) (ty := .int) C.1 C.own (C.K.word (by rw [hY]; exact wd_111) rfl) C.K.2.2.2.2.2.1 (C.K.word wd_126 rfl) rfl (by rw [C.2.1]; exact hd) rfl hn hk (by omega) (by show k.toNatClampNeg * 4 ≤ _; omega) (by omega) rfl rfl hcells hslots
  obtain ⟨f1, f2, -, -⟩ := Jvm.Free.Multi.fill_facts (T.setVm vm₁) cA comp n.toNatClampNeg k.toNatClampNeg (defaultValue .int) n.toNatClampNeg
  have fo := fun (a : Nat) (ha : a < T.heap.size) => Jvm.Free.Multi.fill_old (T.setVm vm₁) cA comp n.toNatClampNeg k.toNatClampNeg (defaultValue .int) (a := a) ha n.toNatClampNeg
  have fi := fun (j : Nat) (hj : j < n.toNatClampNeg) => Jvm.Free.Multi.fill_inner (T.setVm vm₁) cA comp n.toNatClampNeg k.toNatClampNeg (defaultValue .int) n.toNatClampNeg j hj
  generalize Jvm.Free.Multi.fill (T.setVm vm₁) cA comp n.toNatClampNeg k.toNatClampNeg (defaultValue .int) n.toNatClampNeg = T1 at *
  have hs0 : (T.setVm vm₁).heap.size = h.1 := by show T.heap.size = _; rw [hT]; exact hO.1
  have hsT : T.heap.size = h.1 := by rw [hT]; exact hO.1
  rw [hs0] at f1 f2 fi
  have hcA : cA = g.2.2.1 7 := Option.some.inj (hfA.symm.trans (C.K.2.1.2 7 _ rfl).2)
  have hcC : comp = g.2.2.1 0 := Option.some.inj (hfC.symm.trans (C.K.2.1.2 0 _ rfl).2)
  subst hcA hcC
  have hlo : g.2.2.2 ≤ h.1 := by rw [← hO.1]; exact Nat.le_trans C.lo hS.1
  have fo' : ∀ q : Nat, q < h.1 → T1.heap[q]? = H[q]? := fun q hq => by rw [fo q (by omega)]; show T.heap[q]? = _; rw [hT]
  have hZ : zOk g (h.1 + 1 + n.toNatClampNeg, gF h.1 n.toNatClampNeg k.toNatClampNeg h.2) T1.heap := by
    refine ⟨f1, fun a o ha => ?_⟩
    replace ha : gF h.1 n.toNatClampNeg k.toNatClampNeg h.2 a = some o := ha
    by_cases e1 : a = h.1
    · subst e1
      rw [show gF h.1 n.toNatClampNeg k.toNatClampNeg h.2 h.1 = _ from gF_o] at ha
      cases ha
      refine ⟨hlo, ?_⟩
      show T1.heap[h.1]? = some (vp_cell _ _)
      rw [f2, outC_eq, vp_cell_q]
    · by_cases e2 : h.1 < a ∧ a ≤ h.1 + n.toNatClampNeg
      · rw [show gF h.1 n.toNatClampNeg k.toNatClampNeg h.2 a = _ from gF_r e2.1 e2.2] at ha
        cases ha
        refine ⟨by omega, ?_⟩
        show T1.heap[a]? = some (vp_cell _ _)
        obtain ⟨j, hj⟩ : ∃ j, a = h.1 + 1 + j := ⟨a - h.1 - 1, by omega⟩
        subst hj
        rw [fi j (by omega), vp_cell_i, ← arrV_new]
        rfl
      · rw [show gF h.1 n.toNatClampNeg k.toNatClampNeg h.2 a = _ from gF_n (by omega)] at ha
        have hh := hO.2 a o ha
        have hl2 : a < H.size := va_at.lt hh.2
        exact ⟨hh.1, hh.2.kept (fo' a (by rw [← hO.1]; exact hl2))⟩
  have hSS : va_S (fun q => g.2.2.2 ≤ q) s.heap T1.heap locs := ⟨by rw [f1]; have := hS.1; rw [hO.1] at this; omega, fun q h1 h2 => (fo' q (by have := hS.1; rw [hO.1] at this; omega)).trans (hS.2.1 q h1 h2), hS.2.2⟩
  obtain ⟨t, a1, b1⟩ := kk p e s m args below meth c T1.heap locs ls C hZ hSS hl T1 rfl X1
  exact ⟨t, stp t (by rw [hsT]; exact a1), b1⟩
end ZM
def alT0 : alT := (fun _ => 0, fun _ => 0, fun _ _ => 0, fun _ _ => 0)

abbrev YX0_init : zY := (yX0_init.cls, cX0_init, 1, none, rmX0_init, yX0_init.name, fun _ _ => True)
theorem al_out (a : Nat) (f : Nat → Option zOb) (q : Nat) (hq : q < a ∨ a + 46 ≤ q) : (va_up (gF (a + 24) 21 21 (va_up (gF (a + 3) 20 20 (va_up (va_up (va_up (va_up f (a + 1) (some (.inl (0, 20, .inl (fun _ => 0))))) a (some (.inr (0, [.ref (a + 1), .null, .null, .null])))) (a + 2) (some (.inl (0, 20, .inl (fun _ => 0))))) a (some (.inr (0, [.ref (a + 1), .ref (a + 2), .null, .null]))))) a (some (.inr (0, [.ref (a + 1), .ref (a + 2), .ref (a + 3), .null]))))) a (some (.inr (0, [.ref (a + 1), .ref (a + 2), .ref (a + 3), .ref (a + 24)])))) q = f q := by
  rw [vu_n (by omega), gF_n (by omega), vu_n (by omega), gF_n (by omega), vu_n (by omega), vu_n (by omega), vu_n (by omega), vu_n (by omega)]
theorem al_new (a : Nat) (f : Nat → Option zOb) : alAt (a + 46, (va_up (gF (a + 24) 21 21 (va_up (gF (a + 3) 20 20 (va_up (va_up (va_up (va_up f (a + 1) (some (.inl (0, 20, .inl (fun _ => 0))))) a (some (.inr (0, [.ref (a + 1), .null, .null, .null])))) (a + 2) (some (.inl (0, 20, .inl (fun _ => 0))))) a (some (.inr (0, [.ref (a + 1), .ref (a + 2), .null, .null]))))) a (some (.inr (0, [.ref (a + 1), .ref (a + 2), .ref (a + 3), .null]))))) a (some (.inr (0, [.ref (a + 1), .ref (a + 2), .ref (a + 3), .ref (a + 24)]))))) a alT0 := by
  refine ⟨vu_s, ?_, ?_, ⟨fun j => if j < 20 then some (a + 3 + 1 + j) else none, ?_, fun i hi => ?_⟩, fun i hi => ?_, ⟨fun j => if j < 21 then some (a + 24 + 1 + j) else none, ?_, fun i hi => ?_⟩, fun i hi => ?_⟩
  · show (va_up (gF (a + 24) 21 21 (va_up (gF (a + 3) 20 20 (va_up (va_up (va_up (va_up f (a + 1) (some (.inl (0, 20, .inl (fun _ => 0))))) a (some (.inr (0, [.ref (a + 1), .null, .null, .null])))) (a + 2) (some (.inl (0, 20, .inl (fun _ => 0))))) a (some (.inr (0, [.ref (a + 1), .ref (a + 2), .null, .null]))))) a (some (.inr (0, [.ref (a + 1), .ref (a + 2), .ref (a + 3), .null]))))) a (some (.inr (0, [.ref (a + 1), .ref (a + 2), .ref (a + 3), .ref (a + 24)])))) (a + 1) = _
    rw [vu_n (by omega), gF_n (by omega), vu_n (by omega), gF_n (by omega), vu_n (by omega), vu_n (by omega), vu_n (by omega), vu_s]; rfl
  · show (va_up (gF (a + 24) 21 21 (va_up (gF (a + 3) 20 20 (va_up (va_up (va_up (va_up f (a + 1) (some (.inl (0, 20, .inl (fun _ => 0))))) a (some (.inr (0, [.ref (a + 1), .null, .null, .null])))) (a + 2) (some (.inl (0, 20, .inl (fun _ => 0))))) a (some (.inr (0, [.ref (a + 1), .ref (a + 2), .null, .null]))))) a (some (.inr (0, [.ref (a + 1), .ref (a + 2), .ref (a + 3), .null]))))) a (some (.inr (0, [.ref (a + 1), .ref (a + 2), .ref (a + 3), .ref (a + 24)])))) (a + 2) = _
    rw [vu_n (by omega), gF_n (by omega), vu_n (by omega), gF_n (by omega), vu_n (by omega), vu_s]; rfl
  · show (va_up (gF (a + 24) 21 21 (va_up (gF (a + 3) 20 20 (va_up (va_up (va_up (va_up f (a + 1) (some (.inl (0, 20, .inl (fun _ => 0))))) a (some (.inr (0, [.ref (a + 1), .null, .null, .null])))) (a + 2) (some (.inl (0, 20, .inl (fun _ => 0))))) a (some (.inr (0, [.ref (a + 1), .ref (a + 2), .null, .null]))))) a (some (.inr (0, [.ref (a + 1), .ref (a + 2), .ref (a + 3), .null]))))) a (some (.inr (0, [.ref (a + 1), .ref (a + 2), .ref (a + 3), .ref (a + 24)])))) (a + 3) = _
    rw [vu_n (by omega), gF_n (by omega), vu_n (by omega), gF_o]
  · show (if i < 20 then some (a + 3 + 1 + i) else none) = _
    rw [if_pos hi]
  · show (va_up (gF (a + 24) 21 21 (va_up (gF (a + 3) 20 20 (va_up (va_up (va_up (va_up f (a + 1) (some (.inl (0, 20, .inl (fun _ => 0))))) a (some (.inr (0, [.ref (a + 1), .null, .null, .null])))) (a + 2) (some (.inl (0, 20, .inl (fun _ => 0))))) a (some (.inr (0, [.ref (a + 1), .ref (a + 2), .null, .null]))))) a (some (.inr (0, [.ref (a + 1), .ref (a + 2), .ref (a + 3), .null]))))) a (some (.inr (0, [.ref (a + 1), .ref (a + 2), .ref (a + 3), .ref (a + 24)])))) (a + 4 + i) = _
    rw [vu_n (by omega), gF_n (by omega), vu_n (by omega), gF_r (by omega) (by omega)]; rfl
  · show (va_up (gF (a + 24) 21 21 (va_up (gF (a + 3) 20 20 (va_up (va_up (va_up (va_up f (a + 1) (some (.inl (0, 20, .inl (fun _ => 0))))) a (some (.inr (0, [.ref (a + 1), .null, .null, .null])))) (a + 2) (some (.inl (0, 20, .inl (fun _ => 0))))) a (some (.inr (0, [.ref (a + 1), .ref (a + 2), .null, .null]))))) a (some (.inr (0, [.ref (a + 1), .ref (a + 2), .ref (a + 3), .null]))))) a (some (.inr (0, [.ref (a + 1), .ref (a + 2), .ref (a + 3), .ref (a + 24)])))) (a + 24) = _
    rw [vu_n (by omega), gF_o]
  · show (if i < 21 then some (a + 24 + 1 + i) else none) = _
    rw [if_pos hi]
  · show (va_up (gF (a + 24) 21 21 (va_up (gF (a + 3) 20 20 (va_up (va_up (va_up (va_up f (a + 1) (some (.inl (0, 20, .inl (fun _ => 0))))) a (some (.inr (0, [.ref (a + 1), .null, .null, .null])))) (a + 2) (some (.inl (0, 20, .inl (fun _ => 0))))) a (some (.inr (0, [.ref (a + 1), .ref (a + 2), .null, .null]))))) a (some (.inr (0, [.ref (a + 1), .ref (a + 2), .ref (a + 3), .null]))))) a (some (.inr (0, [.ref (a + 1), .ref (a + 2), .ref (a + 3), .ref (a + 24)])))) (a + 25 + i) = _
    rw [vu_n (by omega), gF_r (by omega) (by omega)]; rfl

set_option maxHeartbeats 800000 in
set_option maxRecDepth 100000 in
theorem m_ainit (g : zG) (f : Nat → Option zOb) (a : Nat) (hf : f a = some (.inr (0, [.null, .null, .null, .null]))) : zM g yX0_init cX0_init 1 none rmX0_init [.ref a] (a + 1, f) (fun v h1 => v = none ∧ h1.1 = a + 46 ∧ alAt h1 a alT0 ∧ ∀ q, q < a ∨ a + 46 ≤ q → h1.2 q = f q) := by
  refine zM_of (by decide) (Nat.le_of_ble_eq_true rfl) ?_
  first | refine z_aload_n dX0_init_0 rfl rfl ?_ | refine z_aload_nN dX0_init_0 rfl rfl ?_
  refine zc_X0_3 rfl dX0_init_1 rfl (Nat.le_of_ble_eq_true rfl) (Nat.le_of_ble_eq_true rfl) ?_
  first | refine z_aload_n dX0_init_4 rfl rfl ?_ | refine z_aload_nN dX0_init_4 rfl rfl ?_
  refine z_bipush (v := 20) dX0_init_5 rfl (by decide) ?_
  refine z_newi (N := 20) dX0_init_7 rfl (by decide) rfl (by decide) (by decide) (by decide) ?_
  refine zp_X0_9 rfl rfl dX0_init_9 rfl ((vu_n (by omega)).trans hf) rfl rfl (Nat.le_of_ble_eq_true rfl) ?_
  refine zZ_h (a + 2, (va_up (va_up f (a + 1) (some (.inl (0, 20, .inl (fun _ => 0))))) a (some (.inr (0, [.ref (a + 1), .null, .null, .null]))))) rfl ?_
  first | refine z_aload_n dX0_init_12 rfl rfl ?_ | refine z_aload_nN dX0_init_12 rfl rfl ?_
  refine z_bipush (v := 20) dX0_init_13 rfl (by decide) ?_
  refine z_newi (N := 20) dX0_init_15 rfl (by decide) rfl (by decide) (by decide) (by decide) ?_
  refine zp_X0_15 rfl rfl dX0_init_17 rfl ((vu_n (by omega)).trans vu_s) rfl rfl (Nat.le_of_ble_eq_true rfl) ?_
  refine zZ_h (a + 3, (va_up (va_up (va_up (va_up f (a + 1) (some (.inl (0, 20, .inl (fun _ => 0))))) a (some (.inr (0, [.ref (a + 1), .null, .null, .null])))) (a + 2) (some (.inl (0, 20, .inl (fun _ => 0))))) a (some (.inr (0, [.ref (a + 1), .ref (a + 2), .null, .null]))))) rfl ?_
  first | refine z_aload_n dX0_init_20 rfl rfl ?_ | refine z_aload_nN dX0_init_20 rfl rfl ?_
  refine z_bipush (v := 20) dX0_init_21 rfl (by decide) ?_
  refine z_bipush (v := 20) dX0_init_23 rfl (by decide) ?_
  refine z_mna (N := 20) (M := 20) rfl dX0_init_25 rfl (by decide) (by decide) rfl rfl (by decide) (by decide) (by decide) (by decide) ?_
  refine zp_X0_20 rfl rfl dX0_init_29 rfl ((gF_n (by omega)).trans vu_s) rfl rfl (Nat.le_of_ble_eq_true rfl) ?_
  refine zZ_h (a + 24, (va_up (gF (a + 3) 20 20 (va_up (va_up (va_up (va_up f (a + 1) (some (.inl (0, 20, .inl (fun _ => 0))))) a (some (.inr (0, [.ref (a + 1), .null, .null, .null])))) (a + 2) (some (.inl (0, 20, .inl (fun _ => 0))))) a (some (.inr (0, [.ref (a + 1), .ref (a + 2), .null, .null]))))) a (some (.inr (0, [.ref (a + 1), .ref (a + 2), .ref (a + 3), .null]))))) rfl ?_
  first | refine z_aload_n dX0_init_32 rfl rfl ?_ | refine z_aload_nN dX0_init_32 rfl rfl ?_
  refine z_bipush (v := 21) dX0_init_33 rfl (by decide) ?_
  refine z_bipush (v := 21) dX0_init_35 rfl (by decide) ?_
  refine z_mna (N := 21) (M := 21) rfl dX0_init_37 rfl (by decide) (by decide) rfl rfl (by decide) (by decide) (by decide) (by decide) ?_
  refine zp_X0_23 rfl rfl dX0_init_41 rfl ((gF_n (by omega)).trans vu_s) rfl rfl (Nat.le_of_ble_eq_true rfl) ?_
  refine zZ_h (a + 46, (va_up (gF (a + 24) 21 21 (va_up (gF (a + 3) 20 20 (va_up (va_up (va_up (va_up f (a + 1) (some (.inl (0, 20, .inl (fun _ => 0))))) a (some (.inr (0, [.ref (a + 1), .null, .null, .null])))) (a + 2) (some (.inl (0, 20, .inl (fun _ => 0))))) a (some (.inr (0, [.ref (a + 1), .ref (a + 2), .null, .null]))))) a (some (.inr (0, [.ref (a + 1), .ref (a + 2), .ref (a + 3), .null]))))) a (some (.inr (0, [.ref (a + 1), .ref (a + 2), .ref (a + 3), .ref (a + 24)]))))) rfl ?_
  exact z_vret dX0_init_44 rfl rfl (by exact ⟨rfl, rfl, al_new a f, fun q hq => al_out a f q hq⟩) (Nat.le_of_ble_eq_true rfl) (Nat.le_of_ble_eq_true rfl)

