/-! THE PURE PART: no machine any more: what the functions say -/
def q_F : Nat := 20000
