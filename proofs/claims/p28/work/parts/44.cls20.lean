/-! new objects: the reference -/
abbrev Z0 : Nat → Int32 := fun _ => 0
def zsF : Nat → Int32 := zlp (fun k x => upd x (10 + k) (nI 2)) 5 0 (upd (upd (upd (upd (upd (upd (upd (upd Z0 0 (nI 3)) 1 (nI 2)) 2 (nI 15)) 3 (nI 10)) 4 (nI 1)) 5 (nI 25)) 6 (nI 7)) 7 (nI 2))
