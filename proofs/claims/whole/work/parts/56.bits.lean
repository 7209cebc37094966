theorem m_ofFloat (g : zG) (h : zH) (x : UInt64) (hx : ∃ y, x = FP.f2d y ∧ fpS 100 y ∧ y ≠ FP.Core.fzeroNeg) : zX g yX2_ofFloat cX2_ofFloat 4 (some .long) rmX2_ofFloat [.double x] h (.long (sBits 6 x)) h := sorry
theorem m_ofDouble (g : zG) (h : zH) (x : UInt64) (hx : fpD 100 x ∧ x ≠ FP.Core.dzeroNeg) : zX g yX2_ofDouble cX2_ofDouble 4 (some .long) rmX2_ofDouble [.double x] h (.long (sBits 7 x)) h := sorry

