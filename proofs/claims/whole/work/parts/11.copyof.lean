def f_J7_copyOf_59c91 (a0 a1 : Int) (H : PH) : RO := cpof 0 a0 a1 H
theorem m_J7_copyOf_59c91 (l : Launch) (a0 a1 : Int) (H : PH) (rr : Int) (HH : PH) (h : f_J7_copyOf_59c91 a0 a1 H = some (rr, HH)) : CT l yJ7_copyOf_59c91 cJ7_copyOf_59c91 3 (some (.array .int)) 2 64 [vr a0, vi a1] H (some (vr rr)) HH := by
  sorry
def f_J7_copyOf_c38d5 (a0 a1 : Int) (H : PH) : RO := cpof 1 a0 a1 H
theorem m_J7_copyOf_c38d5 (l : Launch) (a0 a1 : Int) (H : PH) (rr : Int) (HH : PH) (h : f_J7_copyOf_c38d5 a0 a1 H = some (rr, HH)) : CT l yJ7_copyOf_c38d5 cJ7_copyOf_c38d5 3 (some (.array .long)) 2 64 [vr a0, vi a1] H (some (vr rr)) HH := by
  sorry
