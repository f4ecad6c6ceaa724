set_option maxRecDepth 100000 in
set_option maxHeartbeats 4000000 in
theorem c_X3_takeNumber {X : sv_X} {S : sv_S} {f : sv_F} {r : sv_R} {g : sv_G} {sc tx vs : Nat} (hsc : sv_K3 S r sc tx vs) (h11 : 0 ≤ f sc 4 ∧ f sc 4 ≤ f sc 1) (h10 : f sc 1 ≤ 80) : sv_C X 2 MX3_takeNumber 0 0 [sv_r sc] S f r g (sv_qi (fun a f' => a = sp_nv (f tx) (f sc 1) (sp_sk (f tx) (f sc 1) (f sc 4)) ∧ ∃ q φ : Int, f sc 4 ≤ q ∧ q ≤ f sc 1 ∧ f' = sv_u (sv_u f sc 4 q) sc 5 φ ∧ (f sc 5 ≠ -1 → φ = f sc 5) ∧ (f sc 5 = -1 → φ = (if sp_dg (f tx) (f sc 1) (sp_sk (f tx) (f sc 1) (f sc 4)) = true then -1 else (sp_sk (f tx) (f sc 1) (f sc 4))) ∧ (φ = -1 → q = (sp_sk (f tx) (f sc 1) (f sc 4)) + sp_nl (f tx) (f sc 1) (sp_sk (f tx) (f sc 1) (f sc 4))))) S r g) := by
  refine sv_met (by decide) (by simp [lg_sl, sv_cv, va_rf, Value.category]) ?_
  refine sv_fr fun hin => ?_
  have hne : tx ≠ sc := hsc.2.2.2.2.1
  refine sv_aload_n (i := 0) dX3_takeNumber_0 rfl rfl ?_
  refine sv_vv0 (As := []) clX3_37 dX3_takeNumber_1 ⟨_, rfl, rfl⟩ (by decide) rfl (Nat.le_of_ble_eq_true rfl) (by decide) (by decide) hsc.lt hsc.k (c_X3_skipBlanks hsc h11 h10) (fun f1 hf1 => ?_)
  subst hf1
  have hb := sp_sk_bd (t := f tx) h11.2
  have hnl := sp_nl_bd (t := f tx) hb.2
  have x4 : (sv_u f sc 4 (sp_sk (f tx) (f sc 1) (f sc 4))) sc 4 = (sp_sk (f tx) (f sc 1) (f sc 4)) := by simp [sv_u]
  have x1 : (sv_u f sc 4 (sp_sk (f tx) (f sc 1) (f sc 4))) sc 1 = f sc 1 := by simp [sv_u]
  have x5 : (sv_u f sc 4 (sp_sk (f tx) (f sc 1) (f sc 4))) sc 5 = f sc 5 := by simp [sv_u]
  have xt : (sv_u f sc 4 (sp_sk (f tx) (f sc 1) (f sc 4))) tx = f tx := sv_u_ne hne
  refine sv_aload_n (i := 0) dX3_takeNumber_4 rfl rfl ?_
  refine sv_vi0 (As := []) clX3_117 dX3_takeNumber_5 ⟨_, rfl, rfl⟩ (by decide) rfl (Nat.le_of_ble_eq_true rfl) (by decide) (by decide) hsc.lt hsc.k (c_X3_takeDigits (f := (sv_u f sc 4 (sp_sk (f tx) (f sc 1) (f sc 4)))) hsc (by rw [x4, x1]; omega) (by rw [x1]; exact h10)) (fun a f2 hf2 => ?_)
  rw [x4, x1, x5, xt] at hf2
  obtain ⟨ha, hf2⟩ := hf2
  refine sv_ireturn dX3_takeNumber_8 rfl ?_
  refine ⟨_, rfl, rfl, rfl, rfl, ha, ?_⟩
  rcases hf2 with ⟨h1, h2⟩ | ⟨h1, h2⟩
  · refine ⟨(sp_sk (f tx) (f sc 1) (f sc 4)) + sp_nl (f tx) (f sc 1) (sp_sk (f tx) (f sc 1) (f sc 4)), f sc 5, by omega, by omega, ?_, fun _ => rfl, fun e => ⟨by rw [if_pos h1]; exact e, fun _ => rfl⟩⟩
    rw [h2, sv_u_u]
    exact sv_u_self (by simp [sv_u])
  · refine ⟨(sp_sk (f tx) (f sc 1) (f sc 4)), _, by omega, by omega, h2, fun e => by rw [if_neg e], fun e => ⟨by rw [if_pos e, if_neg h1], fun e2 => ?_⟩⟩
    rw [if_pos e] at e2
    omega
