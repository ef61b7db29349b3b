set_option maxRecDepth 100000 in
theorem kd_209_0 : ∀ q ∈ kc_209_0, decode (ip_bytes 209) q.1 = .ok (q.2.1, q.2.2) ∧ ip_okl q.2.1 q.2.2 = true := by decide +kernel
set_option maxRecDepth 100000 in
theorem kd_209_1 : ∀ q ∈ kc_209_1, decode (ip_bytes 209) q.1 = .ok (q.2.1, q.2.2) ∧ ip_okl q.2.1 q.2.2 = true := by decide +kernel
set_option maxRecDepth 100000 in
theorem kd_209_2 : ∀ q ∈ kc_209_2, decode (ip_bytes 209) q.1 = .ok (q.2.1, q.2.2) ∧ ip_okl q.2.1 q.2.2 = true := by decide +kernel
set_option maxRecDepth 100000 in
theorem kd_209_3 : ∀ q ∈ kc_209_3, decode (ip_bytes 209) q.1 = .ok (q.2.1, q.2.2) ∧ ip_okl q.2.1 q.2.2 = true := by decide +kernel
set_option maxRecDepth 100000 in
theorem kd_209_4 : ∀ q ∈ kc_209_4, decode (ip_bytes 209) q.1 = .ok (q.2.1, q.2.2) ∧ ip_okl q.2.1 q.2.2 = true := by decide +kernel
set_option maxRecDepth 100000 in
theorem kd_209_5 : ∀ q ∈ kc_209_5, decode (ip_bytes 209) q.1 = .ok (q.2.1, q.2.2) ∧ ip_okl q.2.1 q.2.2 = true := by decide +kernel
set_option maxRecDepth 100000 in
theorem kd_209_6 : ∀ q ∈ kc_209_6, decode (ip_bytes 209) q.1 = .ok (q.2.1, q.2.2) ∧ ip_okl q.2.1 q.2.2 = true := by decide +kernel
