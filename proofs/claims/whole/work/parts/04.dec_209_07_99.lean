set_option maxRecDepth 100000 in
theorem kd_209_7 : ∀ q ∈ kc_209_7, decode (ip_bytes 209) q.1 = .ok (q.2.1, q.2.2) ∧ ip_okl q.2.1 q.2.2 = true := by decide +kernel
set_option maxRecDepth 100000 in
theorem kd_209_8 : ∀ q ∈ kc_209_8, decode (ip_bytes 209) q.1 = .ok (q.2.1, q.2.2) ∧ ip_okl q.2.1 q.2.2 = true := by decide +kernel
set_option maxRecDepth 100000 in
theorem kd_209_9 : ∀ q ∈ kc_209_9, decode (ip_bytes 209) q.1 = .ok (q.2.1, q.2.2) ∧ ip_okl q.2.1 q.2.2 = true := by decide +kernel
set_option maxRecDepth 100000 in
theorem kd_209_10 : ∀ q ∈ kc_209_10, decode (ip_bytes 209) q.1 = .ok (q.2.1, q.2.2) ∧ ip_okl q.2.1 q.2.2 = true := by decide +kernel
set_option maxRecDepth 100000 in
theorem kd_209_11 : ∀ q ∈ kc_209_11, decode (ip_bytes 209) q.1 = .ok (q.2.1, q.2.2) ∧ ip_okl q.2.1 q.2.2 = true := by decide +kernel
set_option maxRecDepth 100000 in
theorem kd_209_12 : ∀ q ∈ kc_209_12, decode (ip_bytes 209) q.1 = .ok (q.2.1, q.2.2) ∧ ip_okl q.2.1 q.2.2 = true := by decide +kernel
set_option maxRecDepth 100000 in
theorem kd_209_13 : ∀ q ∈ kc_209_13, decode (ip_bytes 209) q.1 = .ok (q.2.1, q.2.2) ∧ ip_okl q.2.1 q.2.2 = true := by decide +kernel
set_option maxRecDepth 100000 in
theorem kd_209_14 : ∀ q ∈ kc_209_14, decode (ip_bytes 209) q.1 = .ok (q.2.1, q.2.2) ∧ ip_okl q.2.1 q.2.2 = true := by decide +kernel
theorem kd_209 : ∀ q ∈ kc_209, decode (ip_bytes 209) q.1 = .ok (q.2.1, q.2.2) ∧ ip_okl q.2.1 q.2.2 = true := List.forall_mem_append.mpr ⟨kd_209_0, List.forall_mem_append.mpr ⟨kd_209_1, List.forall_mem_append.mpr ⟨kd_209_2, List.forall_mem_append.mpr ⟨kd_209_3, List.forall_mem_append.mpr ⟨kd_209_4, List.forall_mem_append.mpr ⟨kd_209_5, List.forall_mem_append.mpr ⟨kd_209_6, List.forall_mem_append.mpr ⟨kd_209_7, List.forall_mem_append.mpr ⟨kd_209_8, List.forall_mem_append.mpr ⟨kd_209_9, List.forall_mem_append.mpr ⟨kd_209_10, List.forall_mem_append.mpr ⟨kd_209_11, List.forall_mem_append.mpr ⟨kd_209_12, List.forall_mem_append.mpr ⟨kd_209_13, kd_209_14⟩⟩⟩⟩⟩⟩⟩⟩⟩⟩⟩⟩⟩⟩
