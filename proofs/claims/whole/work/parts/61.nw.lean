/-! The new objects; all cases. -/
def zR : sM := (0, (vp_updL (vp_updL (vp_updL (vp_updL (vp_updL (vp_updL (fun _ => 0) 0 (-1)) 1 (-1)) 2 (-1)) 3 (-1)) 4 (-1)) 5 (-1)), (fun _ => 0), 0, 0, (fun _ => 0), (fun _ => 0), (fun _ => 0), (fun _ => 0), 0, (fun _ => 0), 0, (fun _ => 0))
theorem s_M_init : f_M_init = some zR := rfl
theorem inv_0 : inv zK zR := by
  refine ⟨⟨fun _ => none, fun _ => on_none, ?_⟩, fun _ => ⟨0, by omega, rfl⟩, ⟨0, by omega, rfl, fun i hi => absurd hi (by omega)⟩, ⟨0, by omega, rfl⟩, fun _ => ⟨0, by omega, rfl⟩, rfl, rfl, rfl, rfl, rfl, rfl, rfl, rfl⟩
  intro k hk
  rcases (show k = 0 ∨ k = 1 ∨ k = 2 ∨ k = 3 ∨ k = 4 ∨ k = 5 by omega) with rfl | rfl | rfl | rfl | rfl | rfl <;> exact ⟨by decide, by decide⟩
theorem ag_inv : agAll inv := ⟨g_secret, g_open, g_code, g_even, g_tweak, g_combine, g_linear, g_sign, g_mark, g_good, g_recover, g_prove, g_holds, g_bundle, g_right, g_agree, g_written, g_type, g_read⟩
