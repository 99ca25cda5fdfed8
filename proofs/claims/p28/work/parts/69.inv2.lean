/-! the relation of both sides, without heaps: S the class's towns (0 the town, 1 to 7 the history's rows, 8 and 9 the slots), s the reference's row, t its history, l its slots -/
theorem zlp_sh0 (t : Nat → Int32) (i : Nat) : zlp (fun k (x : Nat → Int32) => upd x k (x (k + 135))) 675 0 t i = if i < 675 then t (i + 135) else t i := by
  have h := zlp_shift (b := 0) (d := 135) (by omega) 675 0 t i
  have e : (fun (w : Nat) (x : Nat → Int32) => upd x (0 + w) (x (0 + w + 135))) = fun k x => upd x k (x (k + 135)) := by
    funext w x
    rw [Nat.zero_add]
  rw [e] at h
  rw [h]
  by_cases q : i < 675
  · rw [if_pos q, if_pos (by omega)]
  · rw [if_neg q, if_neg (by omega)]
theorem uS_0 {S : Nat → Nat → Int32} {n o c : Nat} {s1 : Nat → Int32} : uS S n o c s1 0 = s1 := up_s
theorem uS_r {S : Nat → Nat → Int32} {n o c : Nat} {s1 : Nat → Int32} : uS S n o c s1 (1 + (o + c) % 7) = kBm (S (1 + (o + c) % 7)) (S 0) n := (up_n (by omega)).trans up_s
theorem uS_n {S : Nat → Nat → Int32} {n o c i : Nat} {s1 : Nat → Int32} (h0 : i ≠ 0) (h : i ≠ 1 + (o + c) % 7) : uS S n o c s1 i = S i := (up_n h0).trans (up_n h)
