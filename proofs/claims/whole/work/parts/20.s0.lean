def sl_s0 (F : Nat → Nat → Int32) : sl_M := fun k f => if k = 0 then (if f = 3 then 63 else 0) else if k < 6 then (if f = 1 then 63 else if f = 7 then -2 else 0) else if k < 12 then (if f = 1 then 1 else 0) else F (k - 12) f
def sl_t0 (Mf : Nat → Int32) : sl_M := fun k f => if k = 18 then (if f = 7 then 63 else 0) else if k = 26 then Mf f else 0
