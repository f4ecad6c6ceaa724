/-! the vault as the law sees it -/
/-- the vault at the places below 478 holds the game m, the history P (u many), the text t of tl numbers -/
def sv_JW (S : sv_S) (r : sv_R) (f : sv_F) (m : Int → Int) (u : Int) (P : Int → Int → Int) (tl : Int) (t : Int → Int) (kp mp : Int → Nat) (kq : Int → Int → Nat) : Prop :=
  (sp_wt m ∧ sp_wg m ∧ (0 ≤ u ∧ u ≤ 6) ∧ (∀ i, 0 ≤ i → i < u → sp_wt (P i) ∧ sp_wg (P i)) ∧ (0 ≤ tl ∧ tl ≤ 80)) ∧ sv_K4 S r 0 1 69 92 93 65 66 ∧ sv_K2 S r 69 70 91 (sv_fd 69) ∧ sv_K3 S r 66 67 68 ∧ sv_K1 S r 1 kp ∧ sv_HI S r 0 1 92 93 66 67 68 91 (sv_fd 69) 65 mp kq ∧ sv_bd 478 0 1 92 93 66 67 68 91 65 (sv_fd 69) mp ∧ sv_V1 f 1 kp m ∧ f 0 2 = u ∧ (∀ i, 0 ≤ i → i < u → sv_V1 f (mp i) (kq i) (P i)) ∧ f 66 1 = tl ∧ f 67 = t
/-- the law's own arrays, and blank cells behind all -/
def sv_JS (S : sv_S) (f : sv_F) : Prop := 480 ≤ S.1 ∧ S.2 478 = (6, 20) ∧ S.2 479 = (6, 64) ∧ sv_bf S f
/-- the vault holds the game m -/
def sv_J (S : sv_S) (r : sv_R) (f : sv_F) (m : Int → Int) : Prop := ∃ u P tl t kp mp kq, sv_JW S r f m u P tl t kp mp kq
/-- and its text is l -/
def sv_JT (S : sv_S) (r : sv_R) (f : sv_F) (m : Int → Int) (l : List Int) : Prop := ∃ u P t kp mp kq, sv_JW S r f m u P (l.length : Int) t kp mp kq ∧ tx_at t 0 l
section SVJW
variable {S S' : sv_S} {r r' r1 : sv_R} {f f' f1 f2 : sv_F} {m m' : Int → Int} {u u' : Int} {P P' : Int → Int → Int} {tl : Int} {t : Int → Int} {kp mp : Int → Nat} {kq : Int → Int → Nat} {l : List Int}
theorem sv_JW.cg (h : sv_JW S r f m u P tl t kp mp kq) (h1 : ∀ x, x < 478 → x ≠ 91 → x ≠ 92 → x ≠ 93 → (∀ p, 0 ≤ p → p < 20 → x ≠ sv_fd 69 p) → f' x = f x) : sv_JW S r f' m u P tl t kp mp kq := by
  obtain ⟨hok, hve, hre, hsc, hmo, hh, hbd, hmv, hVu, hpv, htl1, htt⟩ := h
  have hfd : ∀ x, (x < 71 ∨ 91 ≤ x) → ∀ p, 0 ≤ p → p < 20 → x ≠ sv_fd 69 p := fun x hx p p0 p1 => by unfold sv_fd; omega
  refine ⟨hok, hve, hre, hsc, hmo, hh, hbd, sv_V1.congr hmo hok.1.c hmv fun x x0 x1 => h1 x (by omega) (by omega) (by omega) (by omega) (hfd x (by omega)), by rw [h1 0 (by omega) (by omega) (by omega) (by omega) (hfd 0 (by omega))]; exact hVu, fun i i0 i1 => ?_, by rw [h1 66 (by omega) (by omega) (by omega) (by omega) (hfd _ (by omega))]; exact htl1, by rw [h1 67 (by omega) (by omega) (by omega) (by omega) (hfd _ (by omega))]; exact htt⟩
  have hi6 : i < 6 := by have := hok.2.2.1; omega
  have hx := hh.x i0 hi6
  have b := hbd.2.2 i i0 hi6
  have e1 := hx 92 (by simp)
  have e2 := hx 93 (by simp)
  have e3 := hx 91 (by simp)
  exact sv_V1.congr (hh.o i0 hi6) (hok.2.2.2.1 i i0 i1).1.c (hpv i i0 i1) fun x x0 x1 => h1 x (by omega) (by omega) (by omega) (by omega) (fun p p0 p1 => by have := hh.p i0 hi6 p p0 p1; omega)
theorem sv_JW.un (h : sv_JW S r f m u P tl t kp mp kq) (hu : sv_un 91 92 93 (sv_fd 69) f f') : sv_JW S r f' m u P tl t kp mp kq := h.cg fun x _ a b c d => hu x a d b c
theorem sv_un_hi (hu : sv_un 91 92 93 (sv_fd 69) f f') : ∀ x, 478 ≤ x → f' x = f x := fun x hx => hu x (by omega) (fun p p0 p1 => by unfold sv_fd; omega) (by omega) (by omega)
theorem sv_JW.hi (h : sv_JW S r f m u P tl t kp mp kq) (h1 : ∀ x, x < 478 → f' x = f x) : sv_JW S r f' m u P tl t kp mp kq := h.cg fun x a _ _ _ _ => h1 x a
theorem sv_JW.gr (h : sv_JW S r f m u P tl t kp mp kq) (hle : S.1 ≤ S'.1) (hS : ∀ x, x < S.1 → S'.2 x = S.2 x) : sv_JW S' r f m u P tl t kp mp kq := by
  obtain ⟨hok, hve, hre, hsc, hmo, hh, hbd, hmv, hVu, hpv, htl1, htt⟩ := h
  refine ⟨hok, ?_, hre.mv hle hS rfl rfl, hsc.mv hle hS rfl, sv_K1.mv hmo hle hS (fun _ _ _ => rfl), ⟨fun i a b => ⟨hh.e a b, sv_K1.mv (hh.o a b) hle hS (fun _ _ _ => rfl), hh.g a b, hh.x a b, hh.p a b⟩, hh.2⟩, hbd, hmv, hVu, hpv, htl1, htt⟩
  obtain ⟨a1, a2, a3, ⟨a4, a5, a6⟩, a7, a8, ⟨a9, c1, c2⟩, d1, d2, d3⟩ := hve
  unfold sv_K4
  rw [hS 0 a1, hS _ a5, hS _ c1, hS _ d2]
  exact ⟨by omega, a2, a3, ⟨a4, by omega, a6⟩, a7, a8, ⟨a9, by omega, c2⟩, d1, by omega, d3⟩
theorem sv_JW.nx (h : sv_JW S r f m u P tl t kp mp kq) (hn : sv_NX S 0 1 69 70 91 92 93 65 66 67 68 (sv_fd 69) mp r f m' u' P' f1 r1) (hok' : sp_wt m' ∧ sp_wg m') (hu' : 0 ≤ u' ∧ u' ≤ 6) (hP' : ∀ i, 0 ≤ i → i < u' → sp_wt (P' i) ∧ sp_wg (P' i)) : (∃ kp' mp' kq', sv_JW S r1 f1 m' u' P' tl t kp' mp' kq') ∧ ∀ x, 478 ≤ x → f1 x = f x := by
  obtain ⟨hok, hve, hre, hsc, hmo, hh, hbd, hmv, hVu, hpv, htl1, htt⟩ := h
  obtain ⟨kp', mp', kq', a1, a2, a3, a4, a5, a6, a7, a8, a9, b1, hfr⟩ := hn
  obtain ⟨hbd', hx⟩ := hfr 478 hbd
  exact ⟨⟨kp', mp', kq', ⟨hok'.1, hok'.2, hu', hP', hok.2.2.2.2⟩, a1, a3, a4, a2, a5, hbd', a6, a7, a8, by rw [a9]; exact htl1, by rw [b1]; exact htt⟩, fun x h => (hx x h).1⟩
/-- a change that is recorded -/
theorem sv_JW.ch (h : sv_JW S r f m u P tl t kp mp kq) (hn : sv_NX S 0 1 69 70 91 92 93 65 66 67 68 (sv_fd 69) mp r f m' (sp_ku u) (sp_kP m P u) f1 r1) (hok' : sp_wt m' ∧ sp_wg m') : (∃ u' P' kp' mp' kq', sv_JW S r1 f1 m' u' P' tl t kp' mp' kq') ∧ ∀ x, 478 ≤ x → f1 x = f x := by
  have hok := h.1
  obtain ⟨⟨a, b, c, d⟩, e⟩ := h.nx hn hok' (sp_ku_in hok.2.2.1) (sp_kP_w hok.1 hok.2.1 hok.2.2.1 hok.2.2.2.1)
  exact ⟨⟨_, _, a, b, c, d⟩, e⟩
theorem sv_J.hi (h : sv_J S r f m) (h1 : ∀ x, x < 478 → f' x = f x) : sv_J S r f' m := by
  obtain ⟨u, P, tl, t, kp, mp, kq, h⟩ := h
  exact ⟨u, P, tl, t, kp, mp, kq, h.hi h1⟩
theorem sv_J.gr (h : sv_J S r f m) (hle : S.1 ≤ S'.1) (hS : ∀ x, x < S.1 → S'.2 x = S.2 x) : sv_J S' r f m := by
  obtain ⟨u, P, tl, t, kp, mp, kq, h⟩ := h
  exact ⟨u, P, tl, t, kp, mp, kq, h.gr hle hS⟩
theorem sv_J.w (h : sv_J S r f m) : sp_wt m ∧ sp_wg m := by
  obtain ⟨u, P, tl, t, kp, mp, kq, h⟩ := h
  exact ⟨h.1.1, h.1.2.1⟩
theorem sv_J.k (h : sv_J S r f m) : 0 < S.1 ∧ (S.2 0).1 = 4 := by
  obtain ⟨u, P, tl, t, kp, mp, kq, h⟩ := h
  exact ⟨h.2.1.lt, h.2.1.k⟩
theorem sv_JT.j (h : sv_JT S r f m l) : sv_J S r f m := by
  obtain ⟨u, P, t, kp, mp, kq, h, -⟩ := h
  exact ⟨u, P, _, t, kp, mp, kq, h⟩
theorem sv_JT.hi (h : sv_JT S r f m l) (h1 : ∀ x, x < 478 → f' x = f x) : sv_JT S r f' m l := by
  obtain ⟨u, P, t, kp, mp, kq, h, h2⟩ := h
  exact ⟨u, P, t, kp, mp, kq, h.hi h1, h2⟩
theorem sv_JS.cg (h : sv_JS S f) (h1 : ∀ x, S.1 ≤ x → f' x = f x) : sv_JS S f' := ⟨h.1, h.2.1, h.2.2.1, fun x hx => by rw [h1 x hx]; exact h.2.2.2 x hx⟩
theorem sv_JS.hi (h : sv_JS S f) (h1 : ∀ x, 478 ≤ x → f' x = f x) : sv_JS S f' := h.cg fun x hx => h1 x (by have := h.1; omega)
end SVJW
section JCALL
variable {X : sv_X} {S : sv_S} {f : sv_F} {r : sv_R} {g : sv_G} {m : Int → Int}
theorem J_value (hJ : sv_J S r f m) (i : Int) (hi : sv_in i) : sv_C X 1 MX4_value 0 0 [sv_r 0, sv_i i] S f r g (sv_qp (some (sv_i (if i < 0 then -2 else if i < 6 + 2 * m 582 then m (583 + i) else -1))) S f r g) := by
  obtain ⟨u, P, tl, t, kp, mp, kq, hok, hve, hre, hsc, hmo, hh, hbd, hmv, hVu, hpv, htl1, htt⟩ := hJ
  exact c_X4_value hve hmo hmv hre hok.1 hok.2.1.f i hi
theorem J_entry (hJ : sv_J S r f m) (k i w : Int) (hk : sv_in k) (hi : sv_in i) (hw : sv_in w) : sv_C X 1 MX4_entry 0 0 [sv_r 0, sv_i k, sv_i i, sv_i w] S f r g (sv_qp (some (sv_i (if k < 0 ∨ i < 0 ∨ ¬ (0 ≤ w ∧ w ≤ 1) then -2 else if sp_slot m k = -1 ∨ m (29 * sp_slot m k + 4) ≤ i then -1 else if w = 0 then m (29 * sp_slot m k + (5 + i)) else m (29 * sp_slot m k + (17 + i))))) S f r g) := by
  obtain ⟨u, P, tl, t, kp, mp, kq, hok, hve, hre, hsc, hmo, hh, hbd, hmv, hVu, hpv, htl1, htt⟩ := hJ
  exact c_X4_entry hve hmo hmv hre hok.1 k i w hk hi hw
/-- what an asking call leaves -/
def sv_qj (S : sv_S) (r : sv_R) (f : sv_F) (g : sv_G) (m : Int → Int) (v : Int) : sv_Q := sv_qi (fun a f' => a = v ∧ sv_J S r f' m ∧ ∀ x, 478 ≤ x → f' x = f x) S r g
theorem sv_C.mono {d mc ms : Nat} {M : sv_M} {av : List sv_V} {Q Q' : sv_Q} (h : sv_C X d M mc ms av S f r g Q) (hq : ∀ rv S' f' r' g', Q rv S' f' r' g' → Q' rv S' f' r' g') : sv_C X d M mc ms av S f r g Q' := by
  intro l
  refine MetFree.mono (h l) (fun _ _ h => h) (fun _ _ _ _ _ h => h) ?_
  rintro a s o t - ⟨⟨⟨rv, S', f', r', g', h1, h2, h3⟩, h4⟩, h5⟩
  exact ⟨⟨⟨rv, S', f', r', g', h1, hq _ _ _ _ _ h2, h3⟩, h4⟩, h5⟩
theorem J_kept (hJ : sv_J S r f m) (k w : Int) (hk : sv_in k) (hw : sv_in w) : sv_C X 5 MX4_kept 0 0 [sv_r 0, sv_i k, sv_i w] S f r g (sv_qj S r f g m (if k < 0 ∨ ¬ (0 ≤ w ∧ w ≤ 7) then -2 else if sp_slot m k = -1 then -1 else sp_part m (sp_slot m k) w)) := by
  obtain ⟨u, P, tl, t, kp, mp, kq, hW⟩ := hJ
  obtain ⟨hok, hve, hre, hsc, hmo, hh, hbd, hmv, hVu, hpv, htl1, htt⟩ := id hW
  have hp : sv_sep 0 1 92 93 66 67 68 91 (sv_fd 69) := sv_sep0 0
  refine sv_C.mono (c_X4_kept hve hmo hmv hre hok.1 hsc hp k w hk hw) ?_
  rintro rv S' f' r' g' ⟨a, h1, h2, h3, h4, h5, h6⟩
  exact ⟨a, h1, h2, h3, h4, h5, ⟨u, P, tl, t, kp, mp, kq, hW.un h6⟩, sv_un_hi h6⟩
theorem J_read (hJ : sv_J S r f m) (k F i : Int) (hk : sv_in k) (hF : sv_in F) (hi : sv_in i) : sv_C X 4 MX4_read 0 0 [sv_r 0, sv_i k, sv_i F, sv_i i] S f r g (sv_qj S r f g m (sp_rdv m k F i)) := by
  obtain ⟨u, P, tl, t, kp, mp, kq, hW⟩ := hJ
  obtain ⟨hok, hve, hre, hsc, hmo, hh, hbd, hmv, hVu, hpv, htl1, htt⟩ := id hW
  have hp : sv_sep 0 1 92 93 66 67 68 91 (sv_fd 69) := sv_sep0 0
  refine sv_C.mono (c_X4_read hve hmo hmv hre hok.1 hsc hp k F i hk hF hi) ?_
  rintro rv S' f' r' g' ⟨a, h1, h2, h3, h4, h5, h6⟩
  exact ⟨a, h1, h2, h3, h4, h5, ⟨u, P, tl, t, kp, mp, kq, hW.un h6⟩, sv_un_hi h6⟩
theorem sp_count_0 {u tl w : Int} (h : w ≠ 9 ∧ w ≠ 10) : sp_count m u tl w = sp_count m 0 0 w := by
  unfold sp_count
  rw [if_neg (c := w = 9) h.1, if_neg (c := w = 9) h.1, if_neg (c := w = 10) h.2, if_neg (c := w = 10) h.2]
theorem J_count (hJ : sv_J S r f m) (w : Int) (hw : sv_in w) (hw9 : w ≠ 9 ∧ w ≠ 10) : sv_C X 5 MX4_count 0 0 [sv_r 0, sv_i w] S f r g (sv_qj S r f g m (sp_count m 0 0 w)) := by
  obtain ⟨u, P, tl, t, kp, mp, kq, hW⟩ := hJ
  obtain ⟨hok, hve, hre, hsc, hmo, hh, hbd, hmv, hVu, hpv, htl1, htt⟩ := id hW
  have hp : sv_sep 0 1 92 93 66 67 68 91 (sv_fd 69) := sv_sep0 0
  refine sv_C.mono (c_X4_count hve hmo hmv hre hok.1 hsc hp hok.2.1 w hw) ?_
  rintro rv S' f' r' g' ⟨a, h1, h2, h3, h4, h5, h6⟩
  exact ⟨a, h1, h2, h3, h4, h5.trans (sp_count_0 hw9), ⟨u, P, tl, t, kp, mp, kq, hW.un h6⟩, sv_un_hi h6⟩
theorem J_nearest (hJ : sv_J S r f m)  : sv_C X 5 MX4_nearest 0 0 [sv_r 0] S f r g (sv_qj S r f g m (sp_nst m)) := by
  obtain ⟨u, P, tl, t, kp, mp, kq, hW⟩ := hJ
  obtain ⟨hok, hve, hre, hsc, hmo, hh, hbd, hmv, hVu, hpv, htl1, htt⟩ := id hW
  have hp : sv_sep 0 1 92 93 66 67 68 91 (sv_fd 69) := sv_sep0 0
  refine sv_C.mono (c_X4_nearest hve hmo hmv hre hok.1 hsc hp hok.2.1) ?_
  rintro rv S' f' r' g' ⟨a, h1, h2, h3, h4, h5, h6⟩
  exact ⟨a, h1, h2, h3, h4, h5, ⟨u, P, tl, t, kp, mp, kq, hW.un h6⟩, sv_un_hi h6⟩
theorem J_cause (hJ : sv_J S r f m) (k d2 w : Int) (hk : sv_in k) (hd : sv_in d2) (hw : sv_in w) : sv_C X 4 MX4_cause 0 0 [sv_r 0, sv_i k, sv_i d2, sv_i w] S f r g (sv_qj S r f g m (sp_cau m k d2 w)) := by
  obtain ⟨u, P, tl, t, kp, mp, kq, hW⟩ := hJ
  obtain ⟨hok, hve, hre, hsc, hmo, hh, hbd, hmv, hVu, hpv, htl1, htt⟩ := id hW
  have hp : sv_sep 0 1 92 93 66 67 68 91 (sv_fd 69) := sv_sep0 0
  refine sv_C.mono (c_X4_cause hve hmo hmv hre hok.1 hsc hp k d2 w hk hd hw) ?_
  rintro rv S' f' r' g' ⟨a, h1, h2, h3, h4, h5, h6⟩
  exact ⟨a, h1, h2, h3, h4, h5, ⟨u, P, tl, t, kp, mp, kq, hW.un h6⟩, sv_un_hi h6⟩
theorem J_raise (hJ : sv_J S r f m)  : sv_C X 4 MX4_raise 0 0 [sv_r 0] S f r g (sv_qk (fun a f' r' => (∀ x, 478 ≤ x → f' x = f x) ∧ ((m 582 = 3 ∧ a = -3 ∧ sv_J S r' f' m) ∨ (m 582 ≠ 3 ∧ a = m 582 + 1 ∧ ∀ m', sp_raise m m' → sv_J S r' f' m'))) S g) := by
  obtain ⟨u, P, tl, t, kp, mp, kq, hW⟩ := hJ
  obtain ⟨hok, hve, hre, hsc, hmo, hh, hbd, hmv, hVu, hpv, htl1, htt⟩ := id hW
  have hp : sv_sep 0 1 92 93 66 67 68 91 (sv_fd 69) := sv_sep0 0
  refine sv_C.mono (c_X4_raise hve hmo hmv hre hok.1 hsc hp hh hok.2.2.1 hVu hpv hok.2.2.2.1 hok.2.1) ?_
  rintro rv S' f' r' g' ⟨a, h1, h2, h3, h4⟩
  refine ⟨a, h1, h2, h3, ?_⟩
  rcases h4 with ⟨e1, e2, rfl, rfl⟩ | ⟨e1, e2, e3, e4⟩
  · exact ⟨fun _ _ => rfl, Or.inl ⟨e1, e2, ⟨u, P, tl, t, kp, mp, kq, hW⟩⟩⟩
  · refine ⟨fun x hx => (e3 478 hbd x hx).1, Or.inr ⟨e1, e2, fun m' hm => ?_⟩⟩
    obtain ⟨⟨u', P', kp', mp', kq', hW'⟩, -⟩ := hW.ch (e4 m' hm) (sp_raise_ok hok.1 hok.2.1 e1 hm)
    exact ⟨u', P', tl, t, kp', mp', kq', hW'⟩
theorem J_keep (hJ : sv_J S r f m) (h7 : m 580 ≤ 7 ∧ m 581 ≤ 7) : sv_C X 5 MX4_keep 0 0 [sv_r 0] S f r g (sv_qk (fun a f' r' => (∀ x, 478 ≤ x → f' x = f x) ∧ (a = m 581 ∧ ∀ m', sp_keep m m' → sv_J S r' f' m')) S g) := by
  obtain ⟨u, P, tl, t, kp, mp, kq, hW⟩ := hJ
  obtain ⟨hok, hve, hre, hsc, hmo, hh, hbd, hmv, hVu, hpv, htl1, htt⟩ := id hW
  have hp : sv_sep 0 1 92 93 66 67 68 91 (sv_fd 69) := sv_sep0 0
  refine sv_C.mono (c_X4_keep hve hmo hmv hre hok.1 hsc hp hh hok.2.2.1 hVu hpv hok.2.2.2.1 hok.2.1) ?_
  rintro rv S' f' r' g' ⟨a, h1, h2, h3, h4⟩
  refine ⟨a, h1, h2, h3, ?_⟩
  rcases h4 with ⟨e1, -⟩ | ⟨e1, e2, e3, e4⟩
  · exact absurd e1 (by omega)
  · refine ⟨fun x hx => (e3 478 hbd x hx).1, e2, fun m' hm => ?_⟩
    obtain ⟨⟨u', P', kp', mp', kq', hW'⟩, -⟩ := hW.ch (e4 m' hm) (sp_keep_ok hok.1 hok.2.1 e1 hm)
    exact ⟨u', P', tl, t, kp', mp', kq', hW'⟩
theorem J_load (hJ : sv_J S r f m) (k : Int) (hk : sv_in k) : sv_C X 4 MX4_load 0 0 [sv_r 0, sv_i k] S f r g (sv_qk (fun a f' r' => (∀ x, 478 ≤ x → f' x = f x) ∧ ((sp_slot m k = -1 ∧ a = -2 ∧ sv_J S r' f' m) ∨ (sp_slot m k ≠ -1 ∧ sp_R m k ≠ -1 ∧ a = -3 ∧ sv_J S r' f' m) ∨ (sp_slot m k ≠ -1 ∧ sp_R m k = -1 ∧ a = sp_lform m k ∧ ∀ m', sp_load m k m' → sv_J S r' f' m'))) S g) := by
  obtain ⟨u, P, tl, t, kp, mp, kq, hW⟩ := hJ
  obtain ⟨hok, hve, hre, hsc, hmo, hh, hbd, hmv, hVu, hpv, htl1, htt⟩ := id hW
  have hp : sv_sep 0 1 92 93 66 67 68 91 (sv_fd 69) := sv_sep0 0
  refine sv_C.mono (c_X4_load hve hmo hmv hre hok.1 hsc hp hh hok.2.2.1 hVu hpv hok.2.2.2.1 hok.2.1 k hk) ?_
  rintro rv S' f' r' g' ⟨a, h1, h2, h3, h4⟩
  refine ⟨a, h1, h2, h3, ?_⟩
  rcases h4 with ⟨e1, e2, rfl, rfl⟩ | ⟨e1, e2, e3, e4, rfl⟩ | ⟨e1, e2, e3, e4, e5⟩
  · exact ⟨fun _ _ => rfl, Or.inl ⟨e1, e2, ⟨u, P, tl, t, kp, mp, kq, hW⟩⟩⟩
  · exact ⟨sv_un_hi e4, Or.inr (Or.inl ⟨e1, e2, e3, ⟨u, P, tl, t, kp, mp, kq, hW.un e4⟩⟩)⟩
  · refine ⟨fun x hx => (e4 478 hbd x hx).1, Or.inr (Or.inr ⟨e1, e2, e3, fun m' hm => ?_⟩)⟩
    obtain ⟨⟨u', P', kp', mp', kq', hW'⟩, -⟩ := hW.ch (e5 m' hm) (sp_load_ok hok.1 hok.2.1 e1 e2 hm)
    exact ⟨u', P', tl, t, kp', mp', kq', hW'⟩
theorem J_set (hJ : sv_J S r f m) (w v : Int) (hwi : sv_in w) (hv : sv_in v) : sv_C X 4 MX4_set 0 0 [sv_r 0, sv_i w, sv_i v] S f r g (sv_qk (fun a f' r' => (∀ x, 478 ≤ x → f' x = f x) ∧ ((¬ (0 ≤ w ∧ w ≤ 1 ∧ (if w = 0 then 1 else 0) ≤ v ∧ v ≤ (if w = 0 then 8 else 1)) ∧ a = -2 ∧ sv_J S r' f' m) ∨ ((0 ≤ w ∧ w ≤ 1 ∧ (if w = 0 then 1 else 0) ≤ v ∧ v ≤ (if w = 0 then 8 else 1)) ∧ a = m (596 + w) ∧ sv_J S r' f' (sp_up m (596 + w) v)))) S g) := by
  obtain ⟨u, P, tl, t, kp, mp, kq, hW⟩ := hJ
  obtain ⟨hok, hve, hre, hsc, hmo, hh, hbd, hmv, hVu, hpv, htl1, htt⟩ := id hW
  have hp : sv_sep 0 1 92 93 66 67 68 91 (sv_fd 69) := sv_sep0 0
  refine sv_C.mono (c_X4_set hve hmo hmv hre hok.1 hsc hp hh hok.2.2.1 hVu hpv hok.2.2.2.1 hok.2.1 w v hwi hv) ?_
  rintro rv S' f' r' g' ⟨a, h1, h2, h3, h4⟩
  refine ⟨a, h1, h2, h3, ?_⟩
  rcases h4 with ⟨e1, e2, rfl, rfl⟩ | ⟨e1, e2, e3⟩
  · exact ⟨fun _ _ => rfl, Or.inl ⟨fun z => e1.elim (fun y => y ⟨z.1, z.2.1⟩) (fun y => y z.2.2), e2, ⟨u, P, tl, t, kp, mp, kq, hW⟩⟩⟩
  · have e4 : 0 ≤ w ∧ w ≤ 1 := Decidable.of_not_not fun z => e1 (Or.inl z)
    have e5 : (if w = 0 then 1 else 0) ≤ v ∧ v ≤ (if w = 0 then 8 else 1) := Decidable.of_not_not fun z => e1 (Or.inr z)
    obtain ⟨⟨u', P', kp', mp', kq', hW'⟩, hx⟩ := hW.ch e3 (sp_set_ok hok.1 hok.2.1 e4 e5)
    exact ⟨hx, Or.inr ⟨⟨e4.1, e4.2, e5.1, e5.2⟩, e2, u', P', tl, t, kp', mp', kq', hW'⟩⟩
theorem J_drop (hJ : sv_J S r f m) (k md : Int) (hk : sv_in k) (hmd : md = 0 ∨ md = 1) (hs : sp_slot m k = -1) : sv_C X 4 MX4_drop 0 0 [sv_r 0, sv_i k, sv_i md] S f r g (sv_qk (fun a f' r' => (∀ x, 478 ≤ x → f' x = f x) ∧ (a = -2 ∧ sv_J S r' f' m)) S g) := by
  obtain ⟨u, P, tl, t, kp, mp, kq, hW⟩ := hJ
  obtain ⟨hok, hve, hre, hsc, hmo, hh, hbd, hmv, hVu, hpv, htl1, htt⟩ := id hW
  have hp : sv_sep 0 1 92 93 66 67 68 91 (sv_fd 69) := sv_sep0 0
  refine sv_C.mono (c_X4_drop hve hmo hmv hre hok.1 hsc hp hh hok.2.2.1 hVu hpv hok.2.2.2.1 hok.2.1 k md hk hmd) ?_
  rintro rv S' f' r' g' ⟨a, h1, h2, h3, h4⟩
  refine ⟨a, h1, h2, h3, ?_⟩
  rcases h4 with ⟨e1, e2, rfl, rfl⟩ | ⟨e1, e2, e3⟩
  · exact ⟨fun _ _ => rfl, e2, ⟨u, P, tl, t, kp, mp, kq, hW⟩⟩
  · exact absurd hs e1
theorem J_alter (hJ : sv_J S r f m) (k i v : Int) (hk : sv_in k) (hi : sv_in i) (hv : sv_in v) (hs : sp_slot m k = -1) : sv_C X 4 MX4_alter 0 0 [sv_r 0, sv_i k, sv_i i, sv_i v] S f r g (sv_qk (fun a f' r' => (∀ x, 478 ≤ x → f' x = f x) ∧ (a = -2 ∧ sv_J S r' f' m)) S g) := by
  obtain ⟨u, P, tl, t, kp, mp, kq, hW⟩ := hJ
  obtain ⟨hok, hve, hre, hsc, hmo, hh, hbd, hmv, hVu, hpv, htl1, htt⟩ := id hW
  have hp : sv_sep 0 1 92 93 66 67 68 91 (sv_fd 69) := sv_sep0 0
  refine sv_C.mono (c_X4_alter hve hmo hmv hre hok.1 hsc hp hh hok.2.2.1 hVu hpv hok.2.2.2.1 hok.2.1 k i v hk hi hv) ?_
  rintro rv S' f' r' g' ⟨a, h1, h2, h3, h4⟩
  refine ⟨a, h1, h2, h3, ?_⟩
  rcases h4 with ⟨e1, e2, rfl, rfl⟩ | ⟨e1, e2, e3⟩
  · exact ⟨fun _ _ => rfl, e2, ⟨u, P, tl, t, kp, mp, kq, hW⟩⟩
  · exact absurd (Or.inl hs) e1
theorem J_pack (hJ : sv_J S r f m)  : sv_C X 5 MX4_pack 0 0 [sv_r 0] S f r g (sv_qk (fun a f' r' => (∀ x, 478 ≤ x → f' x = f x) ∧ (a = sp_wes m - sp_wes (sp_pack m) ∧ sv_J S r' f' (sp_pack m))) S g) := by
  obtain ⟨u, P, tl, t, kp, mp, kq, hW⟩ := hJ
  obtain ⟨hok, hve, hre, hsc, hmo, hh, hbd, hmv, hVu, hpv, htl1, htt⟩ := id hW
  have hp : sv_sep 0 1 92 93 66 67 68 91 (sv_fd 69) := sv_sep0 0
  refine sv_C.mono (c_X4_pack hve hmo hmv hre hok.1 hsc hp hh hok.2.2.1 hVu hpv hok.2.2.2.1 hok.2.1) ?_
  rintro rv S' f' r' g' ⟨a, h1, h2, h3, h4⟩
  refine ⟨a, h1, h2, h3, ?_⟩
  obtain ⟨e1, e2⟩ := h4
  obtain ⟨⟨u', P', kp', mp', kq', hW'⟩, hx⟩ := hW.ch e2 (sp_pack_ok hok.1 hok.2.1)
  exact ⟨hx, e1, u', P', tl, t, kp', mp', kq', hW'⟩
theorem J_undo {u : Int} {P : Int → Int → Int} {tl : Int} {t : Int → Int} {kp mp : Int → Nat} {kq : Int → Int → Nat} (hW : sv_JW S r f m u P tl t kp mp kq) (hu : u = 0) : sv_C X 3 MX4_undo 0 0 [sv_r 0] S f r g (sv_qk (fun a f' r' => a = -3 ∧ f' = f ∧ r' = r) S g) := by
  obtain ⟨hok, hve, hre, hsc, hmo, hh, hbd, hmv, hVu, hpv, htl1, htt⟩ := id hW
  have hp : sv_sep 0 1 92 93 66 67 68 91 (sv_fd 69) := sv_sep0 0
  refine sv_C.mono (c_X4_undo hve hmo hmv hre hok.1 hsc hp hh hok.2.2.1 hVu hpv hok.2.2.2.1 hok.2.1) ?_
  rintro rv S' f' r' g' ⟨a, h1, h2, h3, h4⟩
  rcases h4 with ⟨e1, e2, rfl, rfl⟩ | ⟨e1, -⟩
  · exact ⟨a, h1, h2, h3, e2, rfl, rfl⟩
  · exact absurd e1 (by omega)
theorem J_clear (hJ : sv_J S r f m) : sv_C X 0 MX4_clear 0 0 [sv_r 0] S f r g (sv_qi (fun a f' => 0 ≤ a ∧ a ≤ 80 ∧ sv_JT S r f' m [] ∧ ∀ x, 478 ≤ x → f' x = f x) S r g) := by
  obtain ⟨u, P, tl, t, kp, mp, kq, hW⟩ := hJ
  obtain ⟨hok, hve, hre, hsc, hmo, hh, hbd, hmv, hVu, hpv, htl1, htt⟩ := id hW
  have hp : sv_sep 0 1 92 93 66 67 68 91 (sv_fd 69) := sv_sep0 0
  refine sv_C.mono (c_X4_clear hve hmo hmv hre hok.1 hsc) ?_
  rintro rv S' f' r' g' ⟨a, h1, h2, h3, h4, h5, rfl⟩
  refine ⟨a, h1, h2, h3, h4, by rw [h5, htl1]; exact hok.2.2.2.2.1, by rw [h5, htl1]; exact hok.2.2.2.2.2, ⟨u, P, t, kp, mp, kq, ?_, trivial⟩, fun x hx => sv_u_ne (by omega)⟩
  refine ⟨⟨hok.1, hok.2.1, hok.2.2.1, hok.2.2.2.1, by decide, by decide⟩, hve, hre, hsc, hmo, hh, hbd, sv_V1.congr hmo hok.1.c hmv fun x x0 x1 => sv_u_ne (by omega), by rw [sv_u_ne (by decide)]; exact hVu, fun i i0 i1 => ?_, by simp [sv_u], by rw [sv_u_ne (by decide)]; exact htt⟩
  have hx := hh.x i0 (by omega) 66 (by simp)
  exact sv_V1.congr (hh.o i0 (by omega)) (hok.2.2.2.1 i i0 i1).1.c (hpv i i0 i1) fun x x0 x1 => sv_u_ne (by omega)
theorem J_type {l : List Int} (hJ : sv_JT S r f m l) (a : Int) (ha : 0 ≤ a ∧ a ≤ 127) (hl : (l.length : Int) < 80) : sv_C X 0 MX4_type 0 0 [sv_r 0, sv_i a] S f r g (sv_qi (fun b f' => b = (l.length : Int) + 1 ∧ sv_JT S r f' m (l ++ [a]) ∧ ∀ x, 478 ≤ x → f' x = f x) S r g) := by
  obtain ⟨u, P, t, kp, mp, kq, hW, hat⟩ := hJ
  obtain ⟨hok, hve, hre, hsc, hmo, hh, hbd, hmv, hVu, hpv, htl1, htt⟩ := id hW
  refine sv_C.mono (c_X4_type hve hmo hmv hre hok.1 hsc (by rw [htl1]; exact hok.2.2.2.2) a (by unfold sv_in; omega)) ?_
  rintro rv S' f' r' g' ⟨b, h1, h2, h3, h4, h5⟩
  rcases h5 with ⟨e, -⟩ | ⟨-, -, e, -⟩ | ⟨-, -, e1, e2, rfl⟩
  · exact absurd ha e
  · omega
  rw [htl1] at e2
  have hL : ((l ++ [a]).length : Int) = (l.length : Int) + 1 := by simp
  refine ⟨b, h1, h2, h3, h4, e2, ⟨u, P, sp_up t (l.length : Int) a, kp, mp, kq, ?_, ?_⟩, fun x hx => by rw [sv_u_ne (by omega), sv_u_ne (by omega)]⟩
  · refine ⟨⟨hok.1, hok.2.1, hok.2.2.1, hok.2.2.2.1, by omega, by omega⟩, hve, hre, hsc, hmo, hh, hbd, sv_V1.congr hmo hok.1.c hmv fun x x0 x1 => by rw [sv_u_ne (by omega), sv_u_ne (by omega)], by rw [sv_u_ne (by decide), sv_u_ne (by decide)]; exact hVu, fun i i0 i1 => ?_, by rw [hL, htl1]; simp [sv_u], ?_⟩
    · have hx := hh.x i0 (by omega) 66 (by simp)
      have hx2 := hh.x i0 (by omega) 67 (by simp)
      exact sv_V1.congr (hh.o i0 (by omega)) (hok.2.2.2.1 i i0 i1).1.c (hpv i i0 i1) fun x x0 x1 => by rw [sv_u_ne (by omega), sv_u_ne (by omega)]
    · rw [sv_u_ne (by decide)]
      funext y
      rw [htl1, ← htt]
      simp [sv_u, sp_up]
  · rw [tx_app]
    refine ⟨tx_cg (fun j j0 j1 => ?_) hat, ?_, trivial⟩
    · unfold sp_up; rw [if_neg (by omega)]
    · unfold sp_up; rw [if_pos (by omega)]
theorem J_play {l : List Int} {k : Nat} {mm : Int → Int} (hJ : sv_JT S r f m l) (hk : tx_ok (6 + 2 * m 582 - 1) m l k mm) : sv_C X 8 MX4_play 0 0 [sv_r 0] S f r g (sv_qk (fun a f' r' => a = k ∧ sv_J S r' f' mm ∧ ∀ x, 478 ≤ x → f' x = f x) S g) := by
  obtain ⟨u, P, t, kp, mp, kq, hW, hat⟩ := hJ
  obtain ⟨hok, hve, hre, hsc, hmo, hh, hbd, hmv, hVu, hpv, htl1, htt⟩ := id hW
  have hp : sv_sep 0 1 92 93 66 67 68 91 (sv_fd 69) := sv_sep0 0
  refine sv_C.mono (c_X4_play hve hmo hmv hre hok.1 hsc hp hh hok.2.2.1 hVu hpv hok.2.2.2.1 hok.2.1 (by rw [htl1]; exact hok.2.2.2.2)) ?_
  rintro rv S' f' r' g' ⟨a, h1, h2, h3, c, φ, h4, h5⟩
  rw [htl1, htt] at h4 h5
  obtain ⟨s1, s2⟩ := tx_sc hk hat
  obtain ⟨rfl, rfl⟩ := sp_sc_unique h4 s1
  rcases h5 with ⟨e, -⟩ | ⟨-, e2, e3⟩
  · exact absurd rfl e
  rw [s2] at e3
  obtain ⟨⟨u', P', kp', mp', kq', hW'⟩, hx⟩ := hW.ch e3 (by rw [← s2]; exact sp_play_ok hok.1 hok.2.1 (by omega) s1)
  exact ⟨a, h1, h2, h3, e2, ⟨u', P', _, t, kp', mp', kq', hW'⟩, hx⟩
end JCALL
