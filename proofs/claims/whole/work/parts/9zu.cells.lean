/-! the cells behind both constructors -/
set_option maxRecDepth 1000000 in
theorem cn_au_fx0 : (au_fx0.all fun q => cn_f cn_mm q.1 q.2.1 == q.2.2) = true := by decide +kernel
set_option maxRecDepth 1000000 in
theorem cn_au_fx1 : (au_fx1.all fun q => cn_f cn_mm q.1 q.2.1 == q.2.2) = true := by decide +kernel
set_option maxRecDepth 1000000 in
theorem cn_au_fx2 : (au_fx2.all fun q => cn_f cn_mm q.1 q.2.1 == q.2.2) = true := by decide +kernel
set_option maxRecDepth 1000000 in
theorem cn_au_fx3 : (au_fx3.all fun q => cn_f cn_mm q.1 q.2.1 == q.2.2) = true := by decide +kernel
set_option maxRecDepth 1000000 in
theorem cn_au_fx4 : (au_fx4.all fun q => cn_f cn_mm q.1 q.2.1 == q.2.2) = true := by decide +kernel
set_option maxRecDepth 1000000 in
theorem cn_au_fx5 : (au_fx5.all fun q => cn_f cn_mm q.1 q.2.1 == q.2.2) = true := by decide +kernel
set_option maxRecDepth 1000000 in
theorem cn_au_wd0 : (au_wd0.all fun q => cn_f cn_mm q.1 q.2.1 == q.2.2) = true := by decide +kernel
set_option maxRecDepth 1000000 in
theorem cn_au_wd1 : (au_wd1.all fun q => cn_f cn_mm q.1 q.2.1 == q.2.2) = true := by decide +kernel
set_option maxRecDepth 1000000 in
theorem cn_au_wd2 : (au_wd2.all fun q => cn_f cn_mm q.1 q.2.1 == q.2.2) = true := by decide +kernel
set_option maxRecDepth 1000000 in
theorem cn_4 : r2c (cn_f cn_mm) = true := by
  unfold r2c au_fix au_wd
  try simp only [List.all_append, cn_au_fx0, cn_au_fx1, cn_au_fx2, cn_au_fx3, cn_au_fx4, cn_au_fx5, cn_au_wd0, cn_au_wd1, cn_au_wd2, Bool.and_true, Bool.true_and]
  decide +kernel
