theorem zLM.g {Bt : Int → Int} {t q : Int → Int} {j a1 fk fp : Int} (h : zLM Bt t q j a1 0 fk fp) : 0 ≤ fk := by
  unfold zLM at h
  rcases h with h | h | h | h | h | h <;> omega
theorem zAM.g {Bt : Int → Int} {q : Int → Int} {j fk fp : Int} (h : zAM Bt q j 0 fk fp) : 0 ≤ fk := by
  unfold zAM at h
  rcases h with h | h | h | h | h | h | h | h | h | h | h | h <;> omega
theorem zRM.g {Bt : Int → Int} {t q : Int → Int} {b j fk fp e sy : Int} (h : zRM Bt t q b j 0 fk fp e sy) : 0 ≤ fk := by
  unfold zRM at h
  rcases h with h | h | h | h | h | h | h | h | h | h | h | h | h | h | h | h | h | h | h | h | h | h | h | h <;> omega
