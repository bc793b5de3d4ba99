theorem ok_dec {k : Nat} (hk : k < 194) : (am_code k).all (am_dq k) = true := sorry
