theorem CAT.neg {r v : Int} (h : CAT r v) (hv : v < 0) : CAT r (-1) := by unfold CAT at *; omega
