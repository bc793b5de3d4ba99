/-! ===== findFar ===== -/
def m_findFar : ab_M := ([(2, 65, 0), (0, 0, 35)], [(none, [(2, 65, 0), (0, 0, 35)])])
theorem k_findFar : ab_ok ab_TT ab_sets ab_WR 3 142 m_findFar := sorry
