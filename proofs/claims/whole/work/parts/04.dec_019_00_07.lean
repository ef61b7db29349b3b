set_option maxRecDepth 100000 in
theorem kd_19_0 : ∀ q ∈ kc_19_0, decode (ip_bytes 19) q.1 = .ok (q.2.1, q.2.2) ∧ ip_okl q.2.1 q.2.2 = true := by decide +kernel
set_option maxRecDepth 100000 in
theorem kd_19_1 : ∀ q ∈ kc_19_1, decode (ip_bytes 19) q.1 = .ok (q.2.1, q.2.2) ∧ ip_okl q.2.1 q.2.2 = true := by decide +kernel
set_option maxRecDepth 100000 in
theorem kd_19_2 : ∀ q ∈ kc_19_2, decode (ip_bytes 19) q.1 = .ok (q.2.1, q.2.2) ∧ ip_okl q.2.1 q.2.2 = true := by decide +kernel
set_option maxRecDepth 100000 in
theorem kd_19_3 : ∀ q ∈ kc_19_3, decode (ip_bytes 19) q.1 = .ok (q.2.1, q.2.2) ∧ ip_okl q.2.1 q.2.2 = true := by decide +kernel
set_option maxRecDepth 100000 in
theorem kd_19_4 : ∀ q ∈ kc_19_4, decode (ip_bytes 19) q.1 = .ok (q.2.1, q.2.2) ∧ ip_okl q.2.1 q.2.2 = true := by decide +kernel
set_option maxRecDepth 100000 in
theorem kd_19_5 : ∀ q ∈ kc_19_5, decode (ip_bytes 19) q.1 = .ok (q.2.1, q.2.2) ∧ ip_okl q.2.1 q.2.2 = true := by decide +kernel
set_option maxRecDepth 100000 in
theorem kd_19_6 : ∀ q ∈ kc_19_6, decode (ip_bytes 19) q.1 = .ok (q.2.1, q.2.2) ∧ ip_okl q.2.1 q.2.2 = true := by decide +kernel
