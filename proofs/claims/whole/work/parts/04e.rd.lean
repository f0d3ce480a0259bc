/-- what a cell holds -/
def rd (w : AW) (a : Nat) (i : Int) : Int := w.2.2.2 a i
/-- a stretch copied from one cell to another -/
def wcp (w : AW) (s : Nat) (sp : Int) (t : Nat) (tp n : Int) : AW := (w.1, w.2.1, w.2.2.1, cpC w.2.2.2 s sp t tp n)
