/-! All calls, pure. -/
theorem rl_ok : rl_all := fun σ co τ n hP hA => ⟨pq_item hP hA, pq_pass hP hA, pq_table hP hA, pq_claim hP hA, pq_proof hP hA, pq_search hP hA, pq_answer hP hA, pq_tick hP hA, pq_sum hP hA, pq_limit hP hA, pq_decide hP hA, pq_share hP hA, pq_found hP hA, pq_back hP hA, pq_appeal hP hA, pq_paid hP hA, pq_about hP hA, pq_letter hP hA, pq_all hP hA⟩
