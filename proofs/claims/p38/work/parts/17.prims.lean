section
/-! The methods proved by hand are the machine's; so all runs of the small machine are. -/
theorem mt_primsA {E : mE} {Z : mZ} {l : Launch} (hl : l.stackTraces = false) : mt_prims E Z l := by
  intro m as h q hm e
  unfold m_prm at e
  split at e
  · next b => cases e; exact mt_rq0 hl
  · next b => cases e; exact mt_rq1 hl
  · next b => cases e; exact mt_rq2 hl
  · cases e
/-- the small machine's runs are the machine's -/
theorem mt_WA {E : mE} {Z : mZ} {l : Launch} (hl : l.stackTraces = false) : ∀ n, mt_Wn E Z l n := mt_W (mt_primsA hl)
end
