section SVF
variable {f : sv_F} {sc : Nat} {q q2 a b : Int}
theorem sv_F4 : sv_u (sv_u f sc 4 q) sc 5 a sc 4 = q := by simp [sv_u]
theorem sv_F5 : sv_u (sv_u f sc 4 q) sc 5 a sc 5 = a := by simp [sv_u]
theorem sv_Fj {j : Int} (h : j ≠ 4) (h5 : j ≠ 5) : sv_u (sv_u f sc 4 q) sc 5 a sc j = f sc j := by simp [sv_u, h, h5]
theorem sv_Fx_ {x : Nat} (h : x ≠ sc) : sv_u (sv_u f sc 4 q) sc 5 a x = f x := by rw [sv_u_ne h, sv_u_ne h]
theorem sv_FF : sv_u (sv_u (sv_u (sv_u f sc 4 q) sc 5 a) sc 4 q2) sc 5 b = sv_u (sv_u f sc 4 q2) sc 5 b := by
  funext x y; simp only [sv_u]; by_cases h : x = sc <;> by_cases h4 : y = 4 <;> by_cases h5 : y = 5 <;> simp [h, h4, h5]
theorem sv_F4q : sv_u (sv_u (sv_u f sc 4 q) sc 5 a) sc 4 q2 = sv_u (sv_u f sc 4 q2) sc 5 a := by
  funext x y; simp only [sv_u]; by_cases h : x = sc <;> by_cases h4 : y = 4 <;> by_cases h5 : y = 5 <;> simp [h, h4, h5] <;> omega
theorem sv_Fself (h : f sc 4 = q) (h5 : f sc 5 = a) : sv_u (sv_u f sc 4 q) sc 5 a = f := by
  rw [← sv_u_self (f := f) h, ← sv_u_self h5]
end SVF
/-- a digit stands where the blanks and the semicolon are looked for -/
theorem sp_dg_sk {t : Int → Int} {L q : Int} (h : sp_dg t L q = true) : sp_sk t L q = q ∧ sp_nx t L q ≠ 59 := by
  have := sp_dg_iff.mp h
  exact ⟨sp_sk_end (by omega), by omega⟩
/-- what a command leaves -/
def sv_rp (sc vs : Nat) (t : Int → Int) (L hi p : Int) (m : Int → Int) (f f' : sv_F) : Prop := (∀ x, x ≠ sc → x ≠ vs → f' x = f x) ∧ (∀ j, j ≠ 4 → j ≠ 5 → f' sc j = f sc j) ∧ (0 ≤ f' sc 4 ∧ f' sc 4 ≤ L) ∧ f' sc 5 = sp_cf t L hi p ∧ (sp_cf t L hi p = -1 → f' sc 4 = sp_cp4 t L p + 1 ∧ ∀ j, 0 ≤ j → j ≤ hi → f' vs j = sp_ex (sp_cw t L p) (sp_ca t L p) (sp_cb t L p) (sp_cc t L p) m (583 + j))
set_option maxRecDepth 100000 in
set_option maxHeartbeats 4000000 in
theorem n_takeIndex {X : sv_X} {S : sv_S} {f : sv_F} {r : sv_R} {g : sv_G} {sc tx vs : Nat} (hsc : sv_K3 S r sc tx vs) (h10 : f sc 1 ≤ 80) (q φ : Int) (hq : 0 ≤ q ∧ q ≤ f sc 1) (least : Int) (hle : sv_in least) : sv_C X 2 MX3_takeIndex 0 0 [sv_r sc, sv_i least] S (sv_u (sv_u f sc 4 q) sc 5 φ) r g (sv_qi (fun a f' => ∃ φ' : Int, f' = (sv_u (sv_u f sc 4 ((sp_sk (f tx) (f sc 1) q) + (sp_nl (f tx) (f sc 1) (sp_sk (f tx) (f sc 1) q)))) sc 5 φ') ∧ (φ ≠ -1 → φ' = φ) ∧ (φ = -1 → φ' = sp_nf (f tx) (f sc 1) (sp_sk (f tx) (f sc 1) q) least (f sc 3 - 1)) ∧ a = (if φ' = -1 then sp_nv (f tx) (f sc 1) (sp_sk (f tx) (f sc 1) q) else 0)) S r g) := by
  have hne : tx ≠ sc := hsc.2.2.2.2.1
  have y1 : (sv_u (sv_u f sc 4 q) sc 5 φ) sc 1 = f sc 1 := sv_Fj (by decide) (by decide)
  have y3 : (sv_u (sv_u f sc 4 q) sc 5 φ) sc 3 = f sc 3 := sv_Fj (by decide) (by decide)
  have yt : (sv_u (sv_u f sc 4 q) sc 5 φ) tx = f tx := sv_Fx_ hne
  have key := c_X3_takeIndex (X := X) (g := g) (f := (sv_u (sv_u f sc 4 q) sc 5 φ)) hsc (by rw [sv_F4, sv_Fj (by decide) (by decide)]; exact hq) (by rw [sv_Fj (by decide) (by decide)]; exact h10) least hle
  simp only [sv_F4, sv_F5, y1, y3, yt, sv_FF, sv_F4q, sv_u_u] at key
  exact key
set_option maxRecDepth 100000 in
set_option maxHeartbeats 4000000 in
theorem n_takeNumber {X : sv_X} {S : sv_S} {f : sv_F} {r : sv_R} {g : sv_G} {sc tx vs : Nat} (hsc : sv_K3 S r sc tx vs) (h10 : f sc 1 ≤ 80) (q φ : Int) (hq : 0 ≤ q ∧ q ≤ f sc 1) : sv_C X 2 MX3_takeNumber 0 0 [sv_r sc] S (sv_u (sv_u f sc 4 q) sc 5 φ) r g (sv_qi (fun a f' => a = sp_nv (f tx) (f sc 1) (sp_sk (f tx) (f sc 1) q) ∧ ∃ q' φ' : Int, q ≤ q' ∧ q' ≤ f sc 1 ∧ f' = (sv_u (sv_u f sc 4 q') sc 5 φ') ∧ (φ ≠ -1 → φ' = φ) ∧ (φ = -1 → φ' = (if sp_dg (f tx) (f sc 1) (sp_sk (f tx) (f sc 1) q) = true then -1 else (sp_sk (f tx) (f sc 1) q)) ∧ (φ' = -1 → q' = (sp_sk (f tx) (f sc 1) q) + (sp_nl (f tx) (f sc 1) (sp_sk (f tx) (f sc 1) q))))) S r g) := by
  have hne : tx ≠ sc := hsc.2.2.2.2.1
  have y1 : (sv_u (sv_u f sc 4 q) sc 5 φ) sc 1 = f sc 1 := sv_Fj (by decide) (by decide)
  have y3 : (sv_u (sv_u f sc 4 q) sc 5 φ) sc 3 = f sc 3 := sv_Fj (by decide) (by decide)
  have yt : (sv_u (sv_u f sc 4 q) sc 5 φ) tx = f tx := sv_Fx_ hne
  have key := c_X3_takeNumber (X := X) (g := g) (f := (sv_u (sv_u f sc 4 q) sc 5 φ)) hsc (by rw [sv_F4, sv_Fj (by decide) (by decide)]; exact hq) (by rw [sv_Fj (by decide) (by decide)]; exact h10)
  simp only [sv_F4, sv_F5, y1, y3, yt, sv_FF, sv_F4q, sv_u_u] at key
  exact key
set_option maxRecDepth 100000 in
set_option maxHeartbeats 4000000 in
theorem n_takeAmount {X : sv_X} {S : sv_S} {f : sv_F} {r : sv_R} {g : sv_G} {sc tx vs : Nat} (hsc : sv_K3 S r sc tx vs) (h10 : f sc 1 ≤ 80) (q φ : Int) (hq : 0 ≤ q ∧ q ≤ f sc 1) : sv_C X 3 MX3_takeAmount 0 0 [sv_r sc] S (sv_u (sv_u f sc 4 q) sc 5 φ) r g (sv_qi (fun a f' => a = sp_av (f tx) (f sc 1) (sp_sk (f tx) (f sc 1) q) ∧ ∃ q' φ' : Int, q ≤ q' ∧ q' ≤ f sc 1 ∧ f' = (sv_u (sv_u f sc 4 q') sc 5 φ') ∧ (φ ≠ -1 → φ' = φ) ∧ (φ = -1 → φ' = (if sp_dg (f tx) (f sc 1) ((sp_sk (f tx) (f sc 1) q) + sp_mi (f tx) (f sc 1) (sp_sk (f tx) (f sc 1) q)) = true then -1 else ((sp_sk (f tx) (f sc 1) q) + sp_mi (f tx) (f sc 1) (sp_sk (f tx) (f sc 1) q))) ∧ (φ' = -1 → q' = (sp_sk (f tx) (f sc 1) q) + sp_al (f tx) (f sc 1) (sp_sk (f tx) (f sc 1) q)))) S r g) := by
  have hne : tx ≠ sc := hsc.2.2.2.2.1
  have y1 : (sv_u (sv_u f sc 4 q) sc 5 φ) sc 1 = f sc 1 := sv_Fj (by decide) (by decide)
  have y3 : (sv_u (sv_u f sc 4 q) sc 5 φ) sc 3 = f sc 3 := sv_Fj (by decide) (by decide)
  have yt : (sv_u (sv_u f sc 4 q) sc 5 φ) tx = f tx := sv_Fx_ hne
  have key := c_X3_takeAmount (X := X) (g := g) (f := (sv_u (sv_u f sc 4 q) sc 5 φ)) hsc (by rw [sv_F4, sv_Fj (by decide) (by decide)]; exact hq) (by rw [sv_Fj (by decide) (by decide)]; exact h10)
  simp only [sv_F4, sv_F5, y1, y3, yt, sv_FF, sv_F4q, sv_u_u] at key
  exact key
set_option maxRecDepth 100000 in
set_option maxHeartbeats 4000000 in
theorem n_takeSemicolon {X : sv_X} {S : sv_S} {f : sv_F} {r : sv_R} {g : sv_G} {sc tx vs : Nat} (hsc : sv_K3 S r sc tx vs) (h10 : f sc 1 ≤ 80) (q φ : Int) (hq : 0 ≤ q ∧ q ≤ f sc 1) : sv_C X 1 MX3_takeSemicolon 0 0 [sv_r sc] S (sv_u (sv_u f sc 4 q) sc 5 φ) r g (sv_qv (fun f' => (sp_nx (f tx) (f sc 1) (sp_sk (f tx) (f sc 1) q) = 59 ∧ f' = (sv_u (sv_u f sc 4 ((sp_sk (f tx) (f sc 1) q) + 1)) sc 5 φ)) ∨ (sp_nx (f tx) (f sc 1) (sp_sk (f tx) (f sc 1) q) ≠ 59 ∧ f' = (sv_u (sv_u f sc 4 (sp_sk (f tx) (f sc 1) q)) sc 5 (if φ = -1 then (sp_sk (f tx) (f sc 1) q) else φ)))) S r g) := by
  have hne : tx ≠ sc := hsc.2.2.2.2.1
  have y1 : (sv_u (sv_u f sc 4 q) sc 5 φ) sc 1 = f sc 1 := sv_Fj (by decide) (by decide)
  have y3 : (sv_u (sv_u f sc 4 q) sc 5 φ) sc 3 = f sc 3 := sv_Fj (by decide) (by decide)
  have yt : (sv_u (sv_u f sc 4 q) sc 5 φ) tx = f tx := sv_Fx_ hne
  have key := c_X3_takeSemicolon (X := X) (g := g) (f := (sv_u (sv_u f sc 4 q) sc 5 φ)) hsc (by rw [sv_F4, sv_Fj (by decide) (by decide)]; exact hq) (by rw [sv_Fj (by decide) (by decide)]; exact h10)
  simp only [sv_F4, sv_F5, y1, y3, yt, sv_FF, sv_F4q, sv_u_u] at key
  exact key
