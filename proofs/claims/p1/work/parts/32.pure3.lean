/-! the first call on fresh objects -/
set_option maxRecDepth 100000 in
theorem f7 : wf_K_proved wc_0 = some (1, wc_0) := rfl
set_option maxRecDepth 100000 in
theorem f12 : wf_W_bound wc_0 = some (0, wc_0) := rfl
set_option maxRecDepth 100000 in
set_option maxHeartbeats 4000000 in
theorem f13 (a : Int64) : ∃ τ, wf_K_tell a wc_0 = some (0, τ) := ⟨_, rfl⟩
set_option maxRecDepth 100000 in
theorem f14 (a : Int32) : wf_K_improve a wc_0 = some (1, wc_0) := rfl
set_option maxRecDepth 100000 in
theorem f8 (a : Int32) : wf_K_order a wc_0 = some (2, wc_0) := rfl
set_option maxRecDepth 100000 in
theorem f10 (a : Int32) : wf_K_change a wc_0 = some (2, wc_0) := rfl
