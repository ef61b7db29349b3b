set_option maxRecDepth 100000 in
theorem kd_19_7 : ∀ q ∈ kc_19_7, decode (ip_bytes 19) q.1 = .ok (q.2.1, q.2.2) ∧ ip_okl q.2.1 q.2.2 = true := by decide +kernel
set_option maxRecDepth 100000 in
theorem kd_19_8 : ∀ q ∈ kc_19_8, decode (ip_bytes 19) q.1 = .ok (q.2.1, q.2.2) ∧ ip_okl q.2.1 q.2.2 = true := by decide +kernel
set_option maxRecDepth 100000 in
theorem kd_19_9 : ∀ q ∈ kc_19_9, decode (ip_bytes 19) q.1 = .ok (q.2.1, q.2.2) ∧ ip_okl q.2.1 q.2.2 = true := by decide +kernel
set_option maxRecDepth 100000 in
theorem kd_19_10 : ∀ q ∈ kc_19_10, decode (ip_bytes 19) q.1 = .ok (q.2.1, q.2.2) ∧ ip_okl q.2.1 q.2.2 = true := by decide +kernel
set_option maxRecDepth 100000 in
theorem kd_19_11 : ∀ q ∈ kc_19_11, decode (ip_bytes 19) q.1 = .ok (q.2.1, q.2.2) ∧ ip_okl q.2.1 q.2.2 = true := by decide +kernel
set_option maxRecDepth 100000 in
theorem kd_19_12 : ∀ q ∈ kc_19_12, decode (ip_bytes 19) q.1 = .ok (q.2.1, q.2.2) ∧ ip_okl q.2.1 q.2.2 = true := by decide +kernel
theorem kd_19 : ∀ q ∈ kc_19, decode (ip_bytes 19) q.1 = .ok (q.2.1, q.2.2) ∧ ip_okl q.2.1 q.2.2 = true := List.forall_mem_append.mpr ⟨kd_19_0, List.forall_mem_append.mpr ⟨kd_19_1, List.forall_mem_append.mpr ⟨kd_19_2, List.forall_mem_append.mpr ⟨kd_19_3, List.forall_mem_append.mpr ⟨kd_19_4, List.forall_mem_append.mpr ⟨kd_19_5, List.forall_mem_append.mpr ⟨kd_19_6, List.forall_mem_append.mpr ⟨kd_19_7, List.forall_mem_append.mpr ⟨kd_19_8, List.forall_mem_append.mpr ⟨kd_19_9, List.forall_mem_append.mpr ⟨kd_19_10, List.forall_mem_append.mpr ⟨kd_19_11, kd_19_12⟩⟩⟩⟩⟩⟩⟩⟩⟩⟩⟩⟩
