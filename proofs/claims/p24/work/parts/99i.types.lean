section SVROWS4
variable {X : sv_X} {R : Room} {M : sv_M} {Z : sv_Z} {kc ks : Nat} {pc : Nat} {ls : sv_L} {st : List sv_V} {S : sv_S} {f : sv_F} {r : sv_R} {g : sv_G}
theorem sv_su0 {M' : sv_M} {idx d n : Nat} {As : List sv_V} {P : Int → Prop} (hl : sv_cS M.1.cls idx M' n) (hd : decode M.2.1 pc = .ok (.invokestatic idx, 3)) (hn : As.length = n) (hst : 2 * st.length ≤ 8) (hR : d + 1 ≤ R.frames ∧ 8 + (M'.2.2.1 + 11) + 36 * d ≤ R.locals) (hc : kc ≤ R.cells ∧ ks ≤ R.slots)
    (hM : sv_C X d M' 0 0 As S f r g (sv_qi (fun a f' => P a ∧ f' = f) S r g)) (kk : ∀ a, P a → sv_T X R M Z kc ks (pc + 3) ls (sv_i a :: st) S f r g) : sv_T X R M Z kc ks pc ls (As.reverse ++ st) S f r g :=
  sv_si0 hl hd hn hst hR hc hM fun a f' ⟨h1, h2⟩ => by subst h2; exact kk a h1
end SVROWS4
theorem tx_nm_0 {v : Int} (h : 0 ≤ v) : tx_nm v = tx_dg v := by unfold tx_nm; rw [if_neg (by omega)]
theorem tx_dg_2 (v : Int) : ((tx_dg v).length : Int) ≤ 2 := by have := tx_dg_l v; split at this <;> omega
theorem tx_bl_1 (b : Bool) : ((tx_bl b).length : Int) ≤ 1 := by have := tx_bl_l b; split at this <;> omega
theorem tx_wd_4 (w : Int) : ((tx_wd w).length : Int) ≤ 4 := by have := tx_wd_l w; split at this <;> omega
theorem tx_1 (a : Int) : (([a] : List Int).length : Int) = 1 := rfl
theorem lw_g.ex {v m : Int → Int} {hi w a b c : Int} (h : ∀ j, 0 ≤ j → j < 6 + 2 * m 582 → v j = sp_ex w a b c m (583 + j)) (hg : ∀ j, 12 ≤ j → v j = v j) (h12 : v 12 = m 582) (h13 : v 13 = m 595) (h14 : v 14 = m 596) (h15 : v 15 = m 597) (h16 : v 16 = m 580) (hh : hi = 6 + 2 * m 582 - 1) (hF : 1 ≤ m 582 ∧ m 582 ≤ 3) (hv : ∀ j, 0 ≤ j → j ≤ hi → 0 ≤ m (583 + j) ∧ m (583 + j) ≤ 99) (hok : sp_cok hi w a b c) : lw_g v (sp_ex w a b c m) := by
  obtain ⟨-, o2⟩ := sp_ex_ok (by omega) hv hok
  refine ⟨fun j j0 j1 => h j j0 (by rw [o2 582 (by omega)] at j1; exact j1), ?_, ?_, ?_, ?_, ?_⟩
  · rw [o2 582 (by omega)]; exact h12
  · rw [o2 595 (by omega)]; exact h13
  · rw [o2 596 (by omega)]; exact h14
  · rw [o2 597 (by omega)]; exact h15
  · rw [o2 580 (by omega)]; exact h16
set_option maxRecDepth 100000 in
set_option maxHeartbeats 4000000 in
theorem c_L_types {X : sv_X} {S : sv_S} {f : sv_F} {r : sv_R} {g : sv_G} {m mm : Int → Int} {l : List Int} (hT : sv_JT S r f m l) (hl : (l.length : Int) ≤ 60) (hS : sv_JS S f) (hg : lw_g (f 478) mm) (hF : 1 ≤ mm 582 ∧ mm 582 ≤ 3) (hv : ∀ j, 0 ≤ j → j < 6 + 2 * mm 582 → 0 ≤ mm (583 + j) ∧ mm (583 + j) ≤ 99) {x : Int} : sv_C X 2 ML_types 0 0 [sv_r 0, sv_r 478, sv_i x] S f r g (sv_qi (fun a f' => a = 1 ∧ ∃ (w p q c : Int) (b1 b2 : Bool), sp_cok (6 + 2 * mm 582 - 1) w p q c ∧ (w ≠ 3 → c = 0) ∧ sv_JT S r f' m (l ++ tx_cmd w p q c b1 b2) ∧ lw_g (f' 478) (sp_ex w p q c mm) ∧ ∀ x, 479 ≤ x → f' x = f x) S r g) := by
  refine sv_met (by decide) (by simp [lg_sl, sv_cv, va_rf, Value.category]) ?_
  obtain ⟨g0, g12, g13, g14, g15, g16⟩ := id hg
  have hlt : 478 < S.1 := by have := hS.1; omega
  have hx : ∀ x, 478 ≤ x → f x = f x := fun _ _ => rfl
  have p530 : ∀ (f2 : sv_F) (l2 : List Int) (w p q c : Int) (b1 : Bool), sv_JT S r f2 m l2 → (l2.length : Int) ≤ 77 → (∀ b2 : Bool, l2 ++ (tx_bl b2 ++ [59]) = l ++ tx_cmd w p q c b1 b2) → sp_cok (6 + 2 * mm 582 - 1) w p q c → (w ≠ 3 → c = 0) → lw_g (f2 478) (sp_ex w p q c mm) → (∀ x, 479 ≤ x → f2 x = f x) → sv_T X (sv_rm 2 0 0) ML_types (sv_Zm X 0 0 (sv_qi (fun a f' => a = 1 ∧ ∃ (w p q c : Int) (b1 b2 : Bool), sp_cok (6 + 2 * mm 582 - 1) w p q c ∧ (w ≠ 3 → c = 0) ∧ sv_JT S r f' m (l ++ tx_cmd w p q c b1 b2) ∧ lw_g (f' 478) (sp_ex w p q c mm) ∧ ∀ x, 479 ≤ x → f' x = f x) S r g)) 0 0 530 [some (sv_r 0), some (sv_r 478), some (sv_i x), none, none, none, none, none, some (sv_i 1), none, none] [] S (f2) r g := by
    intro f2 l2 w p q c b1 hT hll hl2 hok hc hg2 hx2
    have hx : ∀ x, 478 ≤ x → f2 x = f2 x := fun _ _ => rfl
    have h1 := tx_1 32
    have h2 := tx_1 59
    refine sv_iload dL_types_530 rfl ?_
    refine sv_if_eq (tgt := 566) dL_types_532 (by decide) (by decide) (fun h_532 => absurd h_532 (by decide)) (fun h_532 => ?_)
    refine sv_iload_n (i := 2) dL_types_535 rfl rfl ?_
    refine sv_bipush dL_types_536 (by decide) ?_
    refine sv_ishrU dL_types_538 (fun z_538 hz_538 => ?_)
    refine sv_iconst dL_types_539 ?_
    refine sv_iandU dL_types_540 (fun z_540 hz_540 => ?_)
    refine sv_if_eq (tgt := 553) dL_types_541 (by decide) hz_540 (fun h_541 => ?_) (fun h_541 => ?_)
    · refine sv_aload_n (i := 0) dL_types_553 rfl rfl ?_
      refine sv_bipush dL_types_554 (by decide) ?_
      refine sv_vi0 (As := [_]) clL_55 dL_types_556 ⟨_, rfl, rfl⟩ (by decide) rfl (Nat.le_of_ble_eq_true rfl) (by decide) (by decide) hT.j.k.1 hT.j.k.2 (J_type hT 59 (by decide) (by (try simp only [List.length_append]); (try push_cast); omega)) (fun at2 ft2 hft2 => ?_)
      obtain ⟨hat2, hT, hxt2⟩ := hft2
      have hx : ∀ x, 478 ≤ x → ft2 x = f2 x := fun x h => (hxt2 x h).trans (hx x h)
      have hpt2 : 0 < at2 ∧ at2 ≤ 90 := by
        try simp only [List.length_append] at hat2
        try push_cast at hat2
        omega
      clear hat2
      refine sv_if_le (tgt := 566) dL_types_559 (by decide) (by unfold sv_in; omega) (fun h_559 => absurd h_559 (by omega)) (fun h_559 => ?_)
      refine sv_iconst dL_types_562 ?_
      refine sv_goto (tgt := 567) dL_types_563 (by decide) ?_
      refine sv_zreturn dL_types_567 rfl (by decide) ?_
      first
      | exact ⟨_, rfl, rfl, rfl, rfl, rfl, w, p, q, c, b1, false, hok, hc, hT.eq ((hl2 false) ▸ rfl), by rw [hx 478 (by decide)]; exact hg2, fun x h => (hx x (by omega)).trans (hx2 x h)⟩
      | exact ⟨_, rfl, rfl, rfl, rfl, rfl, w, p, q, c, b1, true, hok, hc, hT.eq (by rw [List.append_assoc]; exact hl2 true), by rw [hx 478 (by decide)]; exact hg2, fun x h => (hx x (by omega)).trans (hx2 x h)⟩
    · refine sv_aload_n (i := 0) dL_types_544 rfl rfl ?_
      refine sv_bipush dL_types_545 (by decide) ?_
      refine sv_vi0 (As := [_]) clL_55 dL_types_547 ⟨_, rfl, rfl⟩ (by decide) rfl (Nat.le_of_ble_eq_true rfl) (by decide) (by decide) hT.j.k.1 hT.j.k.2 (J_type hT 32 (by decide) (by (try simp only [List.length_append]); (try push_cast); omega)) (fun at1 ft1 hft1 => ?_)
      obtain ⟨hat1, hT, hxt1⟩ := hft1
      have hx : ∀ x, 478 ≤ x → ft1 x = f2 x := fun x h => (hxt1 x h).trans (hx x h)
      have hpt1 : 0 < at1 ∧ at1 ≤ 90 := by
        try simp only [List.length_append] at hat1
        try push_cast at hat1
        omega
      clear hat1
      refine sv_if_le (tgt := 566) dL_types_550 (by decide) (by unfold sv_in; omega) (fun h_550 => absurd h_550 (by omega)) (fun h_550 => ?_)
      refine sv_aload_n (i := 0) dL_types_553 rfl rfl ?_
      refine sv_bipush dL_types_554 (by decide) ?_
      refine sv_vi0 (As := [_]) clL_55 dL_types_556 ⟨_, rfl, rfl⟩ (by decide) rfl (Nat.le_of_ble_eq_true rfl) (by decide) (by decide) hT.j.k.1 hT.j.k.2 (J_type hT 59 (by decide) (by (try simp only [List.length_append]); (try push_cast); omega)) (fun at2 ft2 hft2 => ?_)
      obtain ⟨hat2, hT, hxt2⟩ := hft2
      have hx : ∀ x, 478 ≤ x → ft2 x = f2 x := fun x h => (hxt2 x h).trans (hx x h)
      have hpt2 : 0 < at2 ∧ at2 ≤ 90 := by
        try simp only [List.length_append] at hat2
        try push_cast at hat2
        omega
      clear hat2
      refine sv_if_le (tgt := 566) dL_types_559 (by decide) (by unfold sv_in; omega) (fun h_559 => absurd h_559 (by omega)) (fun h_559 => ?_)
      refine sv_iconst dL_types_562 ?_
      refine sv_goto (tgt := 567) dL_types_563 (by decide) ?_
      refine sv_zreturn dL_types_567 rfl (by decide) ?_
      first
      | exact ⟨_, rfl, rfl, rfl, rfl, rfl, w, p, q, c, b1, false, hok, hc, hT.eq ((hl2 false) ▸ rfl), by rw [hx 478 (by decide)]; exact hg2, fun x h => (hx x (by omega)).trans (hx2 x h)⟩
      | exact ⟨_, rfl, rfl, rfl, rfl, rfl, w, p, q, c, b1, true, hok, hc, hT.eq (by rw [List.append_assoc]; exact hl2 true), by rw [hx 478 (by decide)]; exact hg2, fun x h => (hx x (by omega)).trans (hx2 x h)⟩
  have k0 : ∀ (n one other value : Int) (b1 : Bool) (f1 : sv_F) (l1 : List Int), n = 6 + 2 * mm 582 → (0 ≤ one ∧ one < n) → (0 ≤ other ∧ other < n) → ((0 : Int) ≠ (2 : Int) → one ≤ other) → (0 ≤ value ∧ value < 100) → sv_JT S r f1 m l1 → l1 = l ++ (tx_wd (0 : Int) ++ (tx_bl b1 ++ tx_dg one)) → (∀ x, 478 ≤ x → f1 x = f x) → sv_T X (sv_rm 2 0 0) ML_types (sv_Zm X 0 0 (sv_qi (fun a f' => a = 1 ∧ ∃ (w p q c : Int) (b1 b2 : Bool), sp_cok (6 + 2 * mm 582 - 1) w p q c ∧ (w ≠ 3 → c = 0) ∧ sv_JT S r f' m (l ++ tx_cmd w p q c b1 b2) ∧ lw_g (f' 478) (sp_ex w p q c mm) ∧ ∀ x, 479 ≤ x → f' x = f x) S r g)) 0 0 192 [some (sv_r 0), some (sv_r 478), some (sv_i x), some (sv_i n), some (sv_i 0), some (sv_i one), some (sv_i other), some (sv_i value), some (sv_i 1), none, none] [] S (f1) r g := by
    intro n one other value b1 f1 l1 hn h1 h2 h3 h4 hT hl1 hx
    have hll1 : (l1.length : Int) ≤ 67 := by
      rw [hl1]; simp only [List.length_append]; push_cast
      have q1 := tx_wd_4 0
      have q2 := tx_bl_1 b1
      have q3 := tx_dg_2 one
      omega
    have e32 := tx_1 32
    have e478 : f1 478 = f 478 := hx 478 (by decide)
    have nv := tx_nm_l value
    have no := tx_nm_l other
    refine sv_iload dL_types_192 rfl ?_
    refine sv_if_eq (tgt := 219) dL_types_194 (by decide) (by decide) (fun h_194 => absurd h_194 (by decide)) (fun h_194 => ?_)
    refine sv_aload_n (i := 0) dL_types_197 rfl rfl ?_
    refine sv_bipush dL_types_198 (by decide) ?_
    refine sv_vi0 (As := [_]) clL_55 dL_types_200 ⟨_, rfl, rfl⟩ (by decide) rfl (Nat.le_of_ble_eq_true rfl) (by decide) (by decide) hT.j.k.1 hT.j.k.2 (J_type hT 32 (by decide) (by (try simp only [List.length_append]); (try push_cast); omega)) (fun at21 ft21 hft21 => ?_)
    obtain ⟨hat21, hT, hxt21⟩ := hft21
    have hx : ∀ x, 478 ≤ x → ft21 x = f x := fun x h => (hxt21 x h).trans (hx x h)
    have hpt21 : 0 < at21 ∧ at21 ≤ 90 := by
      try simp only [List.length_append] at hat21
      try push_cast at hat21
      omega
    clear hat21
    refine sv_if_le (tgt := 219) dL_types_203 (by decide) (by unfold sv_in; omega) (fun h_203 => absurd h_203 (by omega)) (fun h_203 => ?_)
    refine sv_aload_n (i := 0) dL_types_206 rfl rfl ?_
    refine sv_iload dL_types_207 rfl ?_
    refine sv_si0 (As := [_, _]) clL_78 dL_types_209 rfl (Nat.le_of_ble_eq_true rfl) (by decide) (by decide) (c_L_typesNumber hT (by (try simp only [List.length_append]); (try push_cast); omega) (v := value) (by omega)) (fun an22 fn22 hfn22 => ?_)
    obtain ⟨han22, hT, hxn22⟩ := hfn22
    have hx : ∀ x, 478 ≤ x → fn22 x = f x := fun x h => (hxn22 x h).trans (hx x h)
    refine sv_if_eq (tgt := 219) dL_types_212 (by decide) (by unfold sv_in; omega) (fun h_212 => absurd h_212 (by omega)) (fun h_212 => ?_)
    refine sv_iconst dL_types_215 ?_
    refine sv_goto (tgt := 220) dL_types_216 (by decide) ?_
    refine sv_istore dL_types_220 (by decide) rfl ?_
    refine sv_aload_n (i := 1) dL_types_222 rfl rfl ?_
    refine sv_iload dL_types_223 rfl ?_
    refine sv_iload dL_types_225 rfl ?_
    refine sv_iast dL_types_227 hlt hS.2.1 (by omega) (by unfold sv_in; omega) ?_
    refine sv_goto (tgt := 530) dL_types_228 (by decide) ?_
    refine sv_wk (p530 _ _ 0 one value 0 b1 (hT.hi (fun y hy => sv_u_ne (by omega))) (by (try simp only [List.length_append]); (try push_cast); omega) (fun b2 => by rw [hl1]; unfold tx_cmd; rw [if_neg (fun z => absurd z.1 (by decide)), if_neg (by decide)]; simp [List.append_assoc]) (by refine ⟨by decide, by omega, fun _ => by omega, fun z => absurd z (by decide), fun z => absurd z (by decide), fun z => absurd z (by decide), by decide⟩) (fun _ => rfl) ?_ (fun y hy => by rw [sv_u_ne (by omega)]; exact hx y (by omega))) (by simp [sv_sub]) rfl
    refine lw_g.ex (hi := 6 + 2 * mm 582 - 1) (fun j j0 j1 => ?_) (fun _ _ => rfl) ?_ ?_ ?_ ?_ ?_ rfl hF (fun j a b => hv j a (by omega)) (by refine ⟨by decide, by omega, fun _ => by omega, fun z => absurd z (by decide), fun z => absurd z (by decide), fun z => absurd z (by decide), by decide⟩)
    · unfold sp_ex
      rw [if_pos rfl]
      unfold sp_up
      by_cases e : j = one
      · rw [if_pos (by omega)]; simp [sv_u, e]
      · rw [if_neg (by omega)]
        have : ∀ F : sv_F, F 478 = f 478 → sv_u F 478 one value 478 j = f 478 j := fun F hF => by simp [sv_u, e, hF]
        rw [this _ (hx 478 (by decide))]; exact g0 j j0 j1
    all_goals
      have : ∀ (F : sv_F) (k : Int), F 478 = f 478 → k ≠ one → sv_u F 478 one value 478 k = f 478 k := fun F k hF hk => by simp [sv_u, hk, hF]
      rw [this _ _ (hx 478 (by decide)) (by omega)]; assumption
  have k1 : ∀ (n one other value : Int) (b1 : Bool) (f1 : sv_F) (l1 : List Int), n = 6 + 2 * mm 582 → (0 ≤ one ∧ one < n) → (0 ≤ other ∧ other < n) → ((1 : Int) ≠ (2 : Int) → one ≤ other) → (0 ≤ value ∧ value < 100) → sv_JT S r f1 m l1 → l1 = l ++ (tx_wd (1 : Int) ++ (tx_bl b1 ++ tx_dg one)) → (∀ x, 478 ≤ x → f1 x = f x) → sv_T X (sv_rm 2 0 0) ML_types (sv_Zm X 0 0 (sv_qi (fun a f' => a = 1 ∧ ∃ (w p q c : Int) (b1 b2 : Bool), sp_cok (6 + 2 * mm 582 - 1) w p q c ∧ (w ≠ 3 → c = 0) ∧ sv_JT S r f' m (l ++ tx_cmd w p q c b1 b2) ∧ lw_g (f' 478) (sp_ex w p q c mm) ∧ ∀ x, 479 ≤ x → f' x = f x) S r g)) 0 0 231 [some (sv_r 0), some (sv_r 478), some (sv_i x), some (sv_i n), some (sv_i 1), some (sv_i one), some (sv_i other), some (sv_i value), some (sv_i 1), none, none] [] S (f1) r g := by
    intro n one other value b1 f1 l1 hn h1 h2 h3 h4 hT hl1 hx
    have hll1 : (l1.length : Int) ≤ 67 := by
      rw [hl1]; simp only [List.length_append]; push_cast
      have q1 := tx_wd_4 1
      have q2 := tx_bl_1 b1
      have q3 := tx_dg_2 one
      omega
    have e32 := tx_1 32
    have e478 : f1 478 = f 478 := hx 478 (by decide)
    have nv := tx_nm_l value
    have no := tx_nm_l other
    have hg1 := g0 one h1.1 (by omega)
    have hv1 := hv one h1.1 (by omega)
    have k251 : ∀ v : Int, (-99 ≤ v ∧ v ≤ 99) → sv_T X (sv_rm 2 0 0) ML_types (sv_Zm X 0 0 (sv_qi (fun a f' => a = 1 ∧ ∃ (w p q c : Int) (b1 b2 : Bool), sp_cok (6 + 2 * mm 582 - 1) w p q c ∧ (w ≠ 3 → c = 0) ∧ sv_JT S r f' m (l ++ tx_cmd w p q c b1 b2) ∧ lw_g (f' 478) (sp_ex w p q c mm) ∧ ∀ x, 479 ≤ x → f' x = f x) S r g)) 0 0 251 [some (sv_r 0), some (sv_r 478), some (sv_i x), some (sv_i n), some (sv_i 1), some (sv_i one), some (sv_i other), some (sv_i value), some (sv_i 1), some (sv_i v), none] [] S (f1) r g := by
      intro v hby
      have nv := tx_nm_l v
      have hok : sp_cok (6 + 2 * mm 582 - 1) 1 one v 0 := ⟨by decide, by omega, fun z => absurd z (by decide), fun _ => hby, fun z => absurd z (by decide), fun z => absurd z (by decide), by decide⟩
      refine sv_iload dL_types_251 rfl ?_
      refine sv_if_eq (tgt := 283) dL_types_253 (by decide) (by decide) (fun h_253 => absurd h_253 (by decide)) (fun h_253 => ?_)
      refine sv_iload dL_types_256 rfl ?_
      refine sv_if_lt (tgt := 270) dL_types_258 (by decide) (by unfold sv_in; omega) (fun h_258 => ?_) (fun h_258 => ?_)
      · have nv := tx_nm_l v
        refine sv_aload_n (i := 0) dL_types_270 rfl rfl ?_
        refine sv_iload dL_types_271 rfl ?_
        refine sv_si0 (As := [_, _]) clL_78 dL_types_273 rfl (Nat.le_of_ble_eq_true rfl) (by decide) (by decide) (c_L_typesNumber hT (by (try simp only [List.length_append]); (try push_cast); omega) (v := _) hby) (fun an42 fn42 hfn42 => ?_)
        obtain ⟨han42, hT, hxn42⟩ := hfn42
        have hx : ∀ x, 478 ≤ x → fn42 x = f x := fun x h => (hxn42 x h).trans (hx x h)
        refine sv_if_eq (tgt := 283) dL_types_276 (by decide) (by unfold sv_in; omega) (fun h_276 => absurd h_276 (by omega)) (fun h_276 => ?_)
        refine sv_iconst dL_types_279 ?_
        refine sv_goto (tgt := 284) dL_types_280 (by decide) ?_
        refine sv_istore dL_types_284 (by decide) rfl ?_
        refine sv_aload_n (i := 1) dL_types_286 rfl rfl ?_
        refine sv_iload dL_types_287 rfl ?_
        refine sv_aload_n (i := 1) dL_types_289 rfl rfl ?_
        refine sv_iload dL_types_290 rfl ?_
        refine sv_iald dL_types_292 hlt hS.2.1 (by omega) ?_
        rw [hx 478 (by decide), hg1]
        refine sv_iload dL_types_293 rfl ?_
        refine sv_iadd dL_types_295 ?_
        refine sv_if_ge (tgt := 303) dL_types_296 (by decide) (by unfold sv_in; omega) (fun h_296 => ?_) (fun h_296 => ?_)
        · refine sv_aload_n (i := 1) dL_types_303 rfl rfl ?_
          refine sv_iload dL_types_304 rfl ?_
          refine sv_iald dL_types_306 hlt hS.2.1 (by omega) ?_
          rw [hx 478 (by decide), hg1]
          refine sv_iload dL_types_307 rfl ?_
          refine sv_iadd dL_types_309 ?_
          refine sv_bipush dL_types_310 (by decide) ?_
          refine sv_icmp_le (tgt := 320) dL_types_312 (by decide) (by unfold sv_in; omega) (by decide) (fun h_312 => ?_) (fun h_312 => ?_)
          · refine sv_aload_n (i := 1) dL_types_320 rfl rfl ?_
            refine sv_iload dL_types_321 rfl ?_
            refine sv_iald dL_types_323 hlt hS.2.1 (by omega) ?_
            rw [hx 478 (by decide), hg1]
            refine sv_iload dL_types_324 rfl ?_
            refine sv_iadd dL_types_326 ?_
            refine sv_iast dL_types_327 hlt hS.2.1 (by omega) (by first | decide | (unfold sv_in; omega)) ?_
            refine sv_goto (tgt := 530) dL_types_328 (by decide) ?_
            first
            | (exfalso; omega)
            | (refine sv_wk (p530 _ _ 1 one v 0 b1 (hT.hi (fun y hy => sv_u_ne (by omega))) (by (try simp only [List.length_append]); (try push_cast); omega) (fun b2 => by rw [hl1]; unfold tx_cmd; rw [if_pos ⟨rfl, by omega⟩, if_neg (by decide)]; simp [List.append_assoc]) hok (fun _ => rfl) ?_ (fun y hy => by rw [sv_u_ne (by omega)]; exact hx y (by omega))) (by simp [sv_sub]) rfl
               refine lw_g.ex (hi := 6 + 2 * mm 582 - 1) (fun j j0 j1 => ?_) (fun _ _ => rfl) ?_ ?_ ?_ ?_ ?_ rfl hF (fun j a b => hv j a (by omega)) hok
               · unfold sp_ex
                 rw [if_neg (by decide), if_pos rfl]
                 unfold sp_up
                 by_cases e : j = one
                 · rw [if_pos (by omega), e]
                   have : ∀ (F : sv_F) (z : Int), sv_u F 478 one z 478 one = z := fun F z => by simp [sv_u]
                   rw [this]
                   first
                   | rw [if_pos (by omega)]
                   | rw [if_neg (by omega), if_pos (by omega)]
                   | rw [if_neg (by omega), if_neg (by omega)]
                 · rw [if_neg (by omega)]
                   have : ∀ (F : sv_F) (z : Int), F 478 = f 478 → sv_u F 478 one z 478 j = f 478 j := fun F z hF => by simp [sv_u, e, hF]
                   rw [this _ _ (hx 478 (by decide))]; exact g0 j j0 j1
               all_goals
                 have : ∀ (F : sv_F) (k z : Int), F 478 = f 478 → k ≠ one → sv_u F 478 one z 478 k = f 478 k := fun F k z hF hk => by simp [sv_u, hk, hF]
                 rw [this _ _ _ (hx 478 (by decide)) (by omega)]; assumption)
            | (refine sv_wk (p530 _ _ 1 one v 0 b1 (hT.hi (fun y hy => sv_u_ne (by omega))) (by (try simp only [List.length_append]); (try push_cast); omega) (fun b2 => by rw [hl1]; unfold tx_cmd; rw [if_neg (fun z => absurd z.2 (by omega)), if_neg (by decide)]; simp [List.append_assoc]) hok (fun _ => rfl) ?_ (fun y hy => by rw [sv_u_ne (by omega)]; exact hx y (by omega))) (by simp [sv_sub]) rfl
               refine lw_g.ex (hi := 6 + 2 * mm 582 - 1) (fun j j0 j1 => ?_) (fun _ _ => rfl) ?_ ?_ ?_ ?_ ?_ rfl hF (fun j a b => hv j a (by omega)) hok
               · unfold sp_ex
                 rw [if_neg (by decide), if_pos rfl]
                 unfold sp_up
                 by_cases e : j = one
                 · rw [if_pos (by omega), e]
                   have : ∀ (F : sv_F) (z : Int), sv_u F 478 one z 478 one = z := fun F z => by simp [sv_u]
                   rw [this]
                   first
                   | rw [if_pos (by omega)]
                   | rw [if_neg (by omega), if_pos (by omega)]
                   | rw [if_neg (by omega), if_neg (by omega)]
                 · rw [if_neg (by omega)]
                   have : ∀ (F : sv_F) (z : Int), F 478 = f 478 → sv_u F 478 one z 478 j = f 478 j := fun F z hF => by simp [sv_u, e, hF]
                   rw [this _ _ (hx 478 (by decide))]; exact g0 j j0 j1
               all_goals
                 have : ∀ (F : sv_F) (k z : Int), F 478 = f 478 → k ≠ one → sv_u F 478 one z 478 k = f 478 k := fun F k z hF hk => by simp [sv_u, hk, hF]
                 rw [this _ _ _ (hx 478 (by decide)) (by omega)]; assumption)
          · refine sv_bipush dL_types_315 (by decide) ?_
            refine sv_goto (tgt := 327) dL_types_317 (by decide) ?_
            refine sv_iast dL_types_327 hlt hS.2.1 (by omega) (by first | decide | (unfold sv_in; omega)) ?_
            refine sv_goto (tgt := 530) dL_types_328 (by decide) ?_
            first
            | (exfalso; omega)
            | (refine sv_wk (p530 _ _ 1 one v 0 b1 (hT.hi (fun y hy => sv_u_ne (by omega))) (by (try simp only [List.length_append]); (try push_cast); omega) (fun b2 => by rw [hl1]; unfold tx_cmd; rw [if_pos ⟨rfl, by omega⟩, if_neg (by decide)]; simp [List.append_assoc]) hok (fun _ => rfl) ?_ (fun y hy => by rw [sv_u_ne (by omega)]; exact hx y (by omega))) (by simp [sv_sub]) rfl
               refine lw_g.ex (hi := 6 + 2 * mm 582 - 1) (fun j j0 j1 => ?_) (fun _ _ => rfl) ?_ ?_ ?_ ?_ ?_ rfl hF (fun j a b => hv j a (by omega)) hok
               · unfold sp_ex
                 rw [if_neg (by decide), if_pos rfl]
                 unfold sp_up
                 by_cases e : j = one
                 · rw [if_pos (by omega), e]
                   have : ∀ (F : sv_F) (z : Int), sv_u F 478 one z 478 one = z := fun F z => by simp [sv_u]
                   rw [this]
                   first
                   | rw [if_pos (by omega)]
                   | rw [if_neg (by omega), if_pos (by omega)]
                   | rw [if_neg (by omega), if_neg (by omega)]
                 · rw [if_neg (by omega)]
                   have : ∀ (F : sv_F) (z : Int), F 478 = f 478 → sv_u F 478 one z 478 j = f 478 j := fun F z hF => by simp [sv_u, e, hF]
                   rw [this _ _ (hx 478 (by decide))]; exact g0 j j0 j1
               all_goals
                 have : ∀ (F : sv_F) (k z : Int), F 478 = f 478 → k ≠ one → sv_u F 478 one z 478 k = f 478 k := fun F k z hF hk => by simp [sv_u, hk, hF]
                 rw [this _ _ _ (hx 478 (by decide)) (by omega)]; assumption)
            | (refine sv_wk (p530 _ _ 1 one v 0 b1 (hT.hi (fun y hy => sv_u_ne (by omega))) (by (try simp only [List.length_append]); (try push_cast); omega) (fun b2 => by rw [hl1]; unfold tx_cmd; rw [if_neg (fun z => absurd z.2 (by omega)), if_neg (by decide)]; simp [List.append_assoc]) hok (fun _ => rfl) ?_ (fun y hy => by rw [sv_u_ne (by omega)]; exact hx y (by omega))) (by simp [sv_sub]) rfl
               refine lw_g.ex (hi := 6 + 2 * mm 582 - 1) (fun j j0 j1 => ?_) (fun _ _ => rfl) ?_ ?_ ?_ ?_ ?_ rfl hF (fun j a b => hv j a (by omega)) hok
               · unfold sp_ex
                 rw [if_neg (by decide), if_pos rfl]
                 unfold sp_up
                 by_cases e : j = one
                 · rw [if_pos (by omega), e]
                   have : ∀ (F : sv_F) (z : Int), sv_u F 478 one z 478 one = z := fun F z => by simp [sv_u]
                   rw [this]
                   first
                   | rw [if_pos (by omega)]
                   | rw [if_neg (by omega), if_pos (by omega)]
                   | rw [if_neg (by omega), if_neg (by omega)]
                 · rw [if_neg (by omega)]
                   have : ∀ (F : sv_F) (z : Int), F 478 = f 478 → sv_u F 478 one z 478 j = f 478 j := fun F z hF => by simp [sv_u, e, hF]
                   rw [this _ _ (hx 478 (by decide))]; exact g0 j j0 j1
               all_goals
                 have : ∀ (F : sv_F) (k z : Int), F 478 = f 478 → k ≠ one → sv_u F 478 one z 478 k = f 478 k := fun F k z hF hk => by simp [sv_u, hk, hF]
                 rw [this _ _ _ (hx 478 (by decide)) (by omega)]; assumption)
        · refine sv_iconst dL_types_299 ?_
          refine sv_goto (tgt := 327) dL_types_300 (by decide) ?_
          refine sv_iast dL_types_327 hlt hS.2.1 (by omega) (by first | decide | (unfold sv_in; omega)) ?_
          refine sv_goto (tgt := 530) dL_types_328 (by decide) ?_
          first
          | (exfalso; omega)
          | (refine sv_wk (p530 _ _ 1 one v 0 b1 (hT.hi (fun y hy => sv_u_ne (by omega))) (by (try simp only [List.length_append]); (try push_cast); omega) (fun b2 => by rw [hl1]; unfold tx_cmd; rw [if_pos ⟨rfl, by omega⟩, if_neg (by decide)]; simp [List.append_assoc]) hok (fun _ => rfl) ?_ (fun y hy => by rw [sv_u_ne (by omega)]; exact hx y (by omega))) (by simp [sv_sub]) rfl
             refine lw_g.ex (hi := 6 + 2 * mm 582 - 1) (fun j j0 j1 => ?_) (fun _ _ => rfl) ?_ ?_ ?_ ?_ ?_ rfl hF (fun j a b => hv j a (by omega)) hok
             · unfold sp_ex
               rw [if_neg (by decide), if_pos rfl]
               unfold sp_up
               by_cases e : j = one
               · rw [if_pos (by omega), e]
                 have : ∀ (F : sv_F) (z : Int), sv_u F 478 one z 478 one = z := fun F z => by simp [sv_u]
                 rw [this]
                 first
                 | rw [if_pos (by omega)]
                 | rw [if_neg (by omega), if_pos (by omega)]
                 | rw [if_neg (by omega), if_neg (by omega)]
               · rw [if_neg (by omega)]
                 have : ∀ (F : sv_F) (z : Int), F 478 = f 478 → sv_u F 478 one z 478 j = f 478 j := fun F z hF => by simp [sv_u, e, hF]
                 rw [this _ _ (hx 478 (by decide))]; exact g0 j j0 j1
             all_goals
               have : ∀ (F : sv_F) (k z : Int), F 478 = f 478 → k ≠ one → sv_u F 478 one z 478 k = f 478 k := fun F k z hF hk => by simp [sv_u, hk, hF]
               rw [this _ _ _ (hx 478 (by decide)) (by omega)]; assumption)
          | (refine sv_wk (p530 _ _ 1 one v 0 b1 (hT.hi (fun y hy => sv_u_ne (by omega))) (by (try simp only [List.length_append]); (try push_cast); omega) (fun b2 => by rw [hl1]; unfold tx_cmd; rw [if_neg (fun z => absurd z.2 (by omega)), if_neg (by decide)]; simp [List.append_assoc]) hok (fun _ => rfl) ?_ (fun y hy => by rw [sv_u_ne (by omega)]; exact hx y (by omega))) (by simp [sv_sub]) rfl
             refine lw_g.ex (hi := 6 + 2 * mm 582 - 1) (fun j j0 j1 => ?_) (fun _ _ => rfl) ?_ ?_ ?_ ?_ ?_ rfl hF (fun j a b => hv j a (by omega)) hok
             · unfold sp_ex
               rw [if_neg (by decide), if_pos rfl]
               unfold sp_up
               by_cases e : j = one
               · rw [if_pos (by omega), e]
                 have : ∀ (F : sv_F) (z : Int), sv_u F 478 one z 478 one = z := fun F z => by simp [sv_u]
                 rw [this]
                 first
                 | rw [if_pos (by omega)]
                 | rw [if_neg (by omega), if_pos (by omega)]
                 | rw [if_neg (by omega), if_neg (by omega)]
               · rw [if_neg (by omega)]
                 have : ∀ (F : sv_F) (z : Int), F 478 = f 478 → sv_u F 478 one z 478 j = f 478 j := fun F z hF => by simp [sv_u, e, hF]
                 rw [this _ _ (hx 478 (by decide))]; exact g0 j j0 j1
             all_goals
               have : ∀ (F : sv_F) (k z : Int), F 478 = f 478 → k ≠ one → sv_u F 478 one z 478 k = f 478 k := fun F k z hF hk => by simp [sv_u, hk, hF]
               rw [this _ _ _ (hx 478 (by decide)) (by omega)]; assumption)
      · refine sv_aload_n (i := 0) dL_types_261 rfl rfl ?_
        refine sv_bipush dL_types_262 (by decide) ?_
        refine sv_vi0 (As := [_]) clL_55 dL_types_264 ⟨_, rfl, rfl⟩ (by decide) rfl (Nat.le_of_ble_eq_true rfl) (by decide) (by decide) hT.j.k.1 hT.j.k.2 (J_type hT 32 (by decide) (by (try simp only [List.length_append]); (try push_cast); omega)) (fun at41 ft41 hft41 => ?_)
        obtain ⟨hat41, hT, hxt41⟩ := hft41
        have hx : ∀ x, 478 ≤ x → ft41 x = f x := fun x h => (hxt41 x h).trans (hx x h)
        have hpt41 : 0 < at41 ∧ at41 ≤ 90 := by
          try simp only [List.length_append] at hat41
          try push_cast at hat41
          omega
        clear hat41
        refine sv_if_le (tgt := 283) dL_types_267 (by decide) (by unfold sv_in; omega) (fun h_267 => absurd h_267 (by omega)) (fun h_267 => ?_)
        have nv := tx_nm_l v
        refine sv_aload_n (i := 0) dL_types_270 rfl rfl ?_
        refine sv_iload dL_types_271 rfl ?_
        refine sv_si0 (As := [_, _]) clL_78 dL_types_273 rfl (Nat.le_of_ble_eq_true rfl) (by decide) (by decide) (c_L_typesNumber hT (by (try simp only [List.length_append]); (try push_cast); omega) (v := _) hby) (fun an42 fn42 hfn42 => ?_)
        obtain ⟨han42, hT, hxn42⟩ := hfn42
        have hx : ∀ x, 478 ≤ x → fn42 x = f x := fun x h => (hxn42 x h).trans (hx x h)
        refine sv_if_eq (tgt := 283) dL_types_276 (by decide) (by unfold sv_in; omega) (fun h_276 => absurd h_276 (by omega)) (fun h_276 => ?_)
        refine sv_iconst dL_types_279 ?_
        refine sv_goto (tgt := 284) dL_types_280 (by decide) ?_
        refine sv_istore dL_types_284 (by decide) rfl ?_
        refine sv_aload_n (i := 1) dL_types_286 rfl rfl ?_
        refine sv_iload dL_types_287 rfl ?_
        refine sv_aload_n (i := 1) dL_types_289 rfl rfl ?_
        refine sv_iload dL_types_290 rfl ?_
        refine sv_iald dL_types_292 hlt hS.2.1 (by omega) ?_
        rw [hx 478 (by decide), hg1]
        refine sv_iload dL_types_293 rfl ?_
        refine sv_iadd dL_types_295 ?_
        refine sv_if_ge (tgt := 303) dL_types_296 (by decide) (by unfold sv_in; omega) (fun h_296 => ?_) (fun h_296 => ?_)
        · refine sv_aload_n (i := 1) dL_types_303 rfl rfl ?_
          refine sv_iload dL_types_304 rfl ?_
          refine sv_iald dL_types_306 hlt hS.2.1 (by omega) ?_
          rw [hx 478 (by decide), hg1]
          refine sv_iload dL_types_307 rfl ?_
          refine sv_iadd dL_types_309 ?_
          refine sv_bipush dL_types_310 (by decide) ?_
          refine sv_icmp_le (tgt := 320) dL_types_312 (by decide) (by unfold sv_in; omega) (by decide) (fun h_312 => ?_) (fun h_312 => ?_)
          · refine sv_aload_n (i := 1) dL_types_320 rfl rfl ?_
            refine sv_iload dL_types_321 rfl ?_
            refine sv_iald dL_types_323 hlt hS.2.1 (by omega) ?_
            rw [hx 478 (by decide), hg1]
            refine sv_iload dL_types_324 rfl ?_
            refine sv_iadd dL_types_326 ?_
            refine sv_iast dL_types_327 hlt hS.2.1 (by omega) (by first | decide | (unfold sv_in; omega)) ?_
            refine sv_goto (tgt := 530) dL_types_328 (by decide) ?_
            first
            | (exfalso; omega)
            | (refine sv_wk (p530 _ _ 1 one v 0 b1 (hT.hi (fun y hy => sv_u_ne (by omega))) (by (try simp only [List.length_append]); (try push_cast); omega) (fun b2 => by rw [hl1]; unfold tx_cmd; rw [if_pos ⟨rfl, by omega⟩, if_neg (by decide)]; simp [List.append_assoc]) hok (fun _ => rfl) ?_ (fun y hy => by rw [sv_u_ne (by omega)]; exact hx y (by omega))) (by simp [sv_sub]) rfl
               refine lw_g.ex (hi := 6 + 2 * mm 582 - 1) (fun j j0 j1 => ?_) (fun _ _ => rfl) ?_ ?_ ?_ ?_ ?_ rfl hF (fun j a b => hv j a (by omega)) hok
               · unfold sp_ex
                 rw [if_neg (by decide), if_pos rfl]
                 unfold sp_up
                 by_cases e : j = one
                 · rw [if_pos (by omega), e]
                   have : ∀ (F : sv_F) (z : Int), sv_u F 478 one z 478 one = z := fun F z => by simp [sv_u]
                   rw [this]
                   first
                   | rw [if_pos (by omega)]
                   | rw [if_neg (by omega), if_pos (by omega)]
                   | rw [if_neg (by omega), if_neg (by omega)]
                 · rw [if_neg (by omega)]
                   have : ∀ (F : sv_F) (z : Int), F 478 = f 478 → sv_u F 478 one z 478 j = f 478 j := fun F z hF => by simp [sv_u, e, hF]
                   rw [this _ _ (hx 478 (by decide))]; exact g0 j j0 j1
               all_goals
                 have : ∀ (F : sv_F) (k z : Int), F 478 = f 478 → k ≠ one → sv_u F 478 one z 478 k = f 478 k := fun F k z hF hk => by simp [sv_u, hk, hF]
                 rw [this _ _ _ (hx 478 (by decide)) (by omega)]; assumption)
            | (refine sv_wk (p530 _ _ 1 one v 0 b1 (hT.hi (fun y hy => sv_u_ne (by omega))) (by (try simp only [List.length_append]); (try push_cast); omega) (fun b2 => by rw [hl1]; unfold tx_cmd; rw [if_neg (fun z => absurd z.2 (by omega)), if_neg (by decide)]; simp [List.append_assoc]) hok (fun _ => rfl) ?_ (fun y hy => by rw [sv_u_ne (by omega)]; exact hx y (by omega))) (by simp [sv_sub]) rfl
               refine lw_g.ex (hi := 6 + 2 * mm 582 - 1) (fun j j0 j1 => ?_) (fun _ _ => rfl) ?_ ?_ ?_ ?_ ?_ rfl hF (fun j a b => hv j a (by omega)) hok
               · unfold sp_ex
                 rw [if_neg (by decide), if_pos rfl]
                 unfold sp_up
                 by_cases e : j = one
                 · rw [if_pos (by omega), e]
                   have : ∀ (F : sv_F) (z : Int), sv_u F 478 one z 478 one = z := fun F z => by simp [sv_u]
                   rw [this]
                   first
                   | rw [if_pos (by omega)]
                   | rw [if_neg (by omega), if_pos (by omega)]
                   | rw [if_neg (by omega), if_neg (by omega)]
                 · rw [if_neg (by omega)]
                   have : ∀ (F : sv_F) (z : Int), F 478 = f 478 → sv_u F 478 one z 478 j = f 478 j := fun F z hF => by simp [sv_u, e, hF]
                   rw [this _ _ (hx 478 (by decide))]; exact g0 j j0 j1
               all_goals
                 have : ∀ (F : sv_F) (k z : Int), F 478 = f 478 → k ≠ one → sv_u F 478 one z 478 k = f 478 k := fun F k z hF hk => by simp [sv_u, hk, hF]
                 rw [this _ _ _ (hx 478 (by decide)) (by omega)]; assumption)
          · refine sv_bipush dL_types_315 (by decide) ?_
            refine sv_goto (tgt := 327) dL_types_317 (by decide) ?_
            refine sv_iast dL_types_327 hlt hS.2.1 (by omega) (by first | decide | (unfold sv_in; omega)) ?_
            refine sv_goto (tgt := 530) dL_types_328 (by decide) ?_
            first
            | (exfalso; omega)
            | (refine sv_wk (p530 _ _ 1 one v 0 b1 (hT.hi (fun y hy => sv_u_ne (by omega))) (by (try simp only [List.length_append]); (try push_cast); omega) (fun b2 => by rw [hl1]; unfold tx_cmd; rw [if_pos ⟨rfl, by omega⟩, if_neg (by decide)]; simp [List.append_assoc]) hok (fun _ => rfl) ?_ (fun y hy => by rw [sv_u_ne (by omega)]; exact hx y (by omega))) (by simp [sv_sub]) rfl
               refine lw_g.ex (hi := 6 + 2 * mm 582 - 1) (fun j j0 j1 => ?_) (fun _ _ => rfl) ?_ ?_ ?_ ?_ ?_ rfl hF (fun j a b => hv j a (by omega)) hok
               · unfold sp_ex
                 rw [if_neg (by decide), if_pos rfl]
                 unfold sp_up
                 by_cases e : j = one
                 · rw [if_pos (by omega), e]
                   have : ∀ (F : sv_F) (z : Int), sv_u F 478 one z 478 one = z := fun F z => by simp [sv_u]
                   rw [this]
                   first
                   | rw [if_pos (by omega)]
                   | rw [if_neg (by omega), if_pos (by omega)]
                   | rw [if_neg (by omega), if_neg (by omega)]
                 · rw [if_neg (by omega)]
                   have : ∀ (F : sv_F) (z : Int), F 478 = f 478 → sv_u F 478 one z 478 j = f 478 j := fun F z hF => by simp [sv_u, e, hF]
                   rw [this _ _ (hx 478 (by decide))]; exact g0 j j0 j1
               all_goals
                 have : ∀ (F : sv_F) (k z : Int), F 478 = f 478 → k ≠ one → sv_u F 478 one z 478 k = f 478 k := fun F k z hF hk => by simp [sv_u, hk, hF]
                 rw [this _ _ _ (hx 478 (by decide)) (by omega)]; assumption)
            | (refine sv_wk (p530 _ _ 1 one v 0 b1 (hT.hi (fun y hy => sv_u_ne (by omega))) (by (try simp only [List.length_append]); (try push_cast); omega) (fun b2 => by rw [hl1]; unfold tx_cmd; rw [if_neg (fun z => absurd z.2 (by omega)), if_neg (by decide)]; simp [List.append_assoc]) hok (fun _ => rfl) ?_ (fun y hy => by rw [sv_u_ne (by omega)]; exact hx y (by omega))) (by simp [sv_sub]) rfl
               refine lw_g.ex (hi := 6 + 2 * mm 582 - 1) (fun j j0 j1 => ?_) (fun _ _ => rfl) ?_ ?_ ?_ ?_ ?_ rfl hF (fun j a b => hv j a (by omega)) hok
               · unfold sp_ex
                 rw [if_neg (by decide), if_pos rfl]
                 unfold sp_up
                 by_cases e : j = one
                 · rw [if_pos (by omega), e]
                   have : ∀ (F : sv_F) (z : Int), sv_u F 478 one z 478 one = z := fun F z => by simp [sv_u]
                   rw [this]
                   first
                   | rw [if_pos (by omega)]
                   | rw [if_neg (by omega), if_pos (by omega)]
                   | rw [if_neg (by omega), if_neg (by omega)]
                 · rw [if_neg (by omega)]
                   have : ∀ (F : sv_F) (z : Int), F 478 = f 478 → sv_u F 478 one z 478 j = f 478 j := fun F z hF => by simp [sv_u, e, hF]
                   rw [this _ _ (hx 478 (by decide))]; exact g0 j j0 j1
               all_goals
                 have : ∀ (F : sv_F) (k z : Int), F 478 = f 478 → k ≠ one → sv_u F 478 one z 478 k = f 478 k := fun F k z hF hk => by simp [sv_u, hk, hF]
                 rw [this _ _ _ (hx 478 (by decide)) (by omega)]; assumption)
        · refine sv_iconst dL_types_299 ?_
          refine sv_goto (tgt := 327) dL_types_300 (by decide) ?_
          refine sv_iast dL_types_327 hlt hS.2.1 (by omega) (by first | decide | (unfold sv_in; omega)) ?_
          refine sv_goto (tgt := 530) dL_types_328 (by decide) ?_
          first
          | (exfalso; omega)
          | (refine sv_wk (p530 _ _ 1 one v 0 b1 (hT.hi (fun y hy => sv_u_ne (by omega))) (by (try simp only [List.length_append]); (try push_cast); omega) (fun b2 => by rw [hl1]; unfold tx_cmd; rw [if_pos ⟨rfl, by omega⟩, if_neg (by decide)]; simp [List.append_assoc]) hok (fun _ => rfl) ?_ (fun y hy => by rw [sv_u_ne (by omega)]; exact hx y (by omega))) (by simp [sv_sub]) rfl
             refine lw_g.ex (hi := 6 + 2 * mm 582 - 1) (fun j j0 j1 => ?_) (fun _ _ => rfl) ?_ ?_ ?_ ?_ ?_ rfl hF (fun j a b => hv j a (by omega)) hok
             · unfold sp_ex
               rw [if_neg (by decide), if_pos rfl]
               unfold sp_up
               by_cases e : j = one
               · rw [if_pos (by omega), e]
                 have : ∀ (F : sv_F) (z : Int), sv_u F 478 one z 478 one = z := fun F z => by simp [sv_u]
                 rw [this]
                 first
                 | rw [if_pos (by omega)]
                 | rw [if_neg (by omega), if_pos (by omega)]
                 | rw [if_neg (by omega), if_neg (by omega)]
               · rw [if_neg (by omega)]
                 have : ∀ (F : sv_F) (z : Int), F 478 = f 478 → sv_u F 478 one z 478 j = f 478 j := fun F z hF => by simp [sv_u, e, hF]
                 rw [this _ _ (hx 478 (by decide))]; exact g0 j j0 j1
             all_goals
               have : ∀ (F : sv_F) (k z : Int), F 478 = f 478 → k ≠ one → sv_u F 478 one z 478 k = f 478 k := fun F k z hF hk => by simp [sv_u, hk, hF]
               rw [this _ _ _ (hx 478 (by decide)) (by omega)]; assumption)
          | (refine sv_wk (p530 _ _ 1 one v 0 b1 (hT.hi (fun y hy => sv_u_ne (by omega))) (by (try simp only [List.length_append]); (try push_cast); omega) (fun b2 => by rw [hl1]; unfold tx_cmd; rw [if_neg (fun z => absurd z.2 (by omega)), if_neg (by decide)]; simp [List.append_assoc]) hok (fun _ => rfl) ?_ (fun y hy => by rw [sv_u_ne (by omega)]; exact hx y (by omega))) (by simp [sv_sub]) rfl
             refine lw_g.ex (hi := 6 + 2 * mm 582 - 1) (fun j j0 j1 => ?_) (fun _ _ => rfl) ?_ ?_ ?_ ?_ ?_ rfl hF (fun j a b => hv j a (by omega)) hok
             · unfold sp_ex
               rw [if_neg (by decide), if_pos rfl]
               unfold sp_up
               by_cases e : j = one
               · rw [if_pos (by omega), e]
                 have : ∀ (F : sv_F) (z : Int), sv_u F 478 one z 478 one = z := fun F z => by simp [sv_u]
                 rw [this]
                 first
                 | rw [if_pos (by omega)]
                 | rw [if_neg (by omega), if_pos (by omega)]
                 | rw [if_neg (by omega), if_neg (by omega)]
               · rw [if_neg (by omega)]
                 have : ∀ (F : sv_F) (z : Int), F 478 = f 478 → sv_u F 478 one z 478 j = f 478 j := fun F z hF => by simp [sv_u, e, hF]
                 rw [this _ _ (hx 478 (by decide))]; exact g0 j j0 j1
             all_goals
               have : ∀ (F : sv_F) (k z : Int), F 478 = f 478 → k ≠ one → sv_u F 478 one z 478 k = f 478 k := fun F k z hF hk => by simp [sv_u, hk, hF]
               rw [this _ _ _ (hx 478 (by decide)) (by omega)]; assumption)
    refine sv_iload_n (i := 2) dL_types_231 rfl rfl ?_
    refine sv_bipush dL_types_232 (by decide) ?_
    refine sv_ishrU dL_types_234 (fun z_234 hz_234 => ?_)
    refine sv_iconst dL_types_235 ?_
    refine sv_iandU dL_types_236 (fun z_236 hz_236 => ?_)
    refine sv_iconst dL_types_237 ?_
    refine sv_icmp_ne (tgt := 247) dL_types_238 (by decide) hz_236 (by decide) (fun h_238 => ?_) (fun h_238 => ?_)
    · refine sv_iload dL_types_247 rfl ?_
      refine sv_istore dL_types_249 (by decide) rfl ?_
      exact k251 _ (by omega)
    · refine sv_iload dL_types_241 rfl ?_
      refine sv_ineg dL_types_243 ?_
      refine sv_goto (tgt := 249) dL_types_244 (by decide) ?_
      refine sv_istore dL_types_249 (by decide) rfl ?_
      exact k251 _ (by omega)
  have k2 : ∀ (n one other value : Int) (b1 : Bool) (f1 : sv_F) (l1 : List Int), n = 6 + 2 * mm 582 → (0 ≤ one ∧ one < n) → (0 ≤ other ∧ other < n) → ((2 : Int) ≠ (2 : Int) → one ≤ other) → (0 ≤ value ∧ value < 100) → sv_JT S r f1 m l1 → l1 = l ++ (tx_wd (2 : Int) ++ (tx_bl b1 ++ tx_dg one)) → (∀ x, 478 ≤ x → f1 x = f x) → sv_T X (sv_rm 2 0 0) ML_types (sv_Zm X 0 0 (sv_qi (fun a f' => a = 1 ∧ ∃ (w p q c : Int) (b1 b2 : Bool), sp_cok (6 + 2 * mm 582 - 1) w p q c ∧ (w ≠ 3 → c = 0) ∧ sv_JT S r f' m (l ++ tx_cmd w p q c b1 b2) ∧ lw_g (f' 478) (sp_ex w p q c mm) ∧ ∀ x, 479 ≤ x → f' x = f x) S r g)) 0 0 331 [some (sv_r 0), some (sv_r 478), some (sv_i x), some (sv_i n), some (sv_i 2), some (sv_i one), some (sv_i other), some (sv_i value), some (sv_i 1), none, none] [] S (f1) r g := by
    intro n one other value b1 f1 l1 hn h1 h2 h3 h4 hT hl1 hx
    have hll1 : (l1.length : Int) ≤ 67 := by
      rw [hl1]; simp only [List.length_append]; push_cast
      have q1 := tx_wd_4 2
      have q2 := tx_bl_1 b1
      have q3 := tx_dg_2 one
      omega
    have e32 := tx_1 32
    have e478 : f1 478 = f 478 := hx 478 (by decide)
    have nv := tx_nm_l value
    have no := tx_nm_l other
    have hga := g0 one h1.1 (by omega)
    have hgb := g0 other h2.1 (by omega)
    have hva := hv one h1.1 (by omega)
    have hvb := hv other h2.1 (by omega)
    have hok : sp_cok (6 + 2 * mm 582 - 1) 2 one other 0 := ⟨by decide, by omega, fun z => absurd z (by decide), fun z => absurd z (by decide), fun _ => by omega, fun z => absurd z (by decide), by decide⟩
    refine sv_aload_n (i := 1) dL_types_331 rfl rfl ?_
    refine sv_iload dL_types_332 rfl ?_
    refine sv_iald dL_types_334 hlt hS.2.1 (by omega) ?_
    rw [e478, hga]
    refine sv_istore dL_types_335 (by decide) rfl ?_
    refine sv_aload_n (i := 1) dL_types_337 rfl rfl ?_
    refine sv_iload dL_types_338 rfl ?_
    refine sv_aload_n (i := 1) dL_types_340 rfl rfl ?_
    refine sv_iload dL_types_341 rfl ?_
    refine sv_iald dL_types_343 hlt hS.2.1 (by omega) ?_
    rw [e478, hgb]
    refine sv_iast dL_types_344 hlt hS.2.1 (by omega) (by unfold sv_in; omega) ?_
    refine sv_aload_n (i := 1) dL_types_345 rfl rfl ?_
    refine sv_iload dL_types_346 rfl ?_
    refine sv_iload dL_types_348 rfl ?_
    refine sv_iast dL_types_350 hlt hS.2.1 (by omega) (by unfold sv_in; omega) ?_
    have hT := hT.hi (f' := sv_u (sv_u f1 478 one (mm (583 + other))) 478 other (mm (583 + one))) (fun y hy => by rw [sv_u_ne (by omega), sv_u_ne (by omega)])
    have hx0 := hx
    have hx : ∀ x, 478 ≤ x → sv_u (sv_u f1 478 one (mm (583 + other))) 478 other (mm (583 + one)) x = sv_u (sv_u f1 478 one (mm (583 + other))) 478 other (mm (583 + one)) x := fun _ _ => rfl
    refine sv_iload dL_types_351 rfl ?_
    refine sv_if_eq (tgt := 378) dL_types_353 (by decide) (by decide) (fun h_353 => absurd h_353 (by decide)) (fun h_353 => ?_)
    refine sv_aload_n (i := 0) dL_types_356 rfl rfl ?_
    refine sv_bipush dL_types_357 (by decide) ?_
    refine sv_vi0 (As := [_]) clL_55 dL_types_359 ⟨_, rfl, rfl⟩ (by decide) rfl (Nat.le_of_ble_eq_true rfl) (by decide) (by decide) hT.j.k.1 hT.j.k.2 (J_type hT 32 (by decide) (by (try simp only [List.length_append]); (try push_cast); omega)) (fun at61 ft61 hft61 => ?_)
    obtain ⟨hat61, hT, hxt61⟩ := hft61
    have hx : ∀ x, 478 ≤ x → ft61 x = sv_u (sv_u f1 478 one (mm (583 + other))) 478 other (mm (583 + one)) x := fun x h => (hxt61 x h).trans (hx x h)
    have hpt61 : 0 < at61 ∧ at61 ≤ 90 := by
      try simp only [List.length_append] at hat61
      try push_cast at hat61
      omega
    clear hat61
    refine sv_if_le (tgt := 378) dL_types_362 (by decide) (by unfold sv_in; omega) (fun h_362 => absurd h_362 (by omega)) (fun h_362 => ?_)
    refine sv_aload_n (i := 0) dL_types_365 rfl rfl ?_
    refine sv_iload dL_types_366 rfl ?_
    refine sv_si0 (As := [_, _]) clL_78 dL_types_368 rfl (Nat.le_of_ble_eq_true rfl) (by decide) (by decide) (c_L_typesNumber hT (by (try simp only [List.length_append]); (try push_cast); omega) (v := other) (by omega)) (fun an62 fn62 hfn62 => ?_)
    obtain ⟨han62, hT, hxn62⟩ := hfn62
    have hx : ∀ x, 478 ≤ x → fn62 x = sv_u (sv_u f1 478 one (mm (583 + other))) 478 other (mm (583 + one)) x := fun x h => (hxn62 x h).trans (hx x h)
    refine sv_if_eq (tgt := 378) dL_types_371 (by decide) (by unfold sv_in; omega) (fun h_371 => absurd h_371 (by omega)) (fun h_371 => ?_)
    refine sv_iconst dL_types_374 ?_
    refine sv_goto (tgt := 379) dL_types_375 (by decide) ?_
    refine sv_istore dL_types_379 (by decide) rfl ?_
    refine sv_goto (tgt := 530) dL_types_381 (by decide) ?_
    refine sv_wk (p530 _ _ 2 one other 0 b1 hT (by (try simp only [List.length_append]); (try push_cast); omega) (fun b2 => by rw [hl1]; unfold tx_cmd; rw [if_neg (by omega), if_neg (by decide)]; simp [List.append_assoc]) hok (fun _ => rfl) ?_ (fun y hy => by rw [hx y (by omega), sv_u_ne (by omega), sv_u_ne (by omega)]; exact hx0 y (by omega))) (by simp [sv_sub]) rfl
    rw [hx 478 (by decide)]
    refine lw_g.ex (hi := 6 + 2 * mm 582 - 1) (fun j j0 j1 => ?_) (fun _ _ => rfl) ?_ ?_ ?_ ?_ ?_ rfl hF (fun j a b => hv j a (by omega)) hok
    · unfold sp_ex
      rw [if_neg (by decide), if_neg (by decide), if_pos rfl]
      unfold sp_up
      by_cases e : j = other
      · rw [if_pos (by omega)]; simp [sv_u, e]
      · rw [if_neg (by omega)]
        by_cases e2 : j = one
        · rw [if_pos (by omega)]; subst e2; simp [sv_u, e]
        · rw [if_neg (by omega)]; simp [sv_u, e, e2, e478]; exact g0 j j0 j1
    all_goals
      have : ∀ (k : Int), k ≠ one → k ≠ other → sv_u (sv_u f1 478 one (mm (583 + other))) 478 other (mm (583 + one)) 478 k = f 478 k := fun k hk hk2 => by simp [sv_u, hk, hk2, e478]
      rw [this _ (by omega) (by omega)]; assumption
  have k3 : ∀ (n one other value : Int) (b1 : Bool) (f1 : sv_F) (l1 : List Int), n = 6 + 2 * mm 582 → (0 ≤ one ∧ one < n) → (0 ≤ other ∧ other < n) → ((3 : Int) ≠ (2 : Int) → one ≤ other) → (0 ≤ value ∧ value < 100) → sv_JT S r f1 m l1 → l1 = l ++ (tx_wd (3 : Int) ++ (tx_bl b1 ++ tx_dg one)) → (∀ x, 478 ≤ x → f1 x = f x) → sv_T X (sv_rm 2 0 0) ML_types (sv_Zm X 0 0 (sv_qi (fun a f' => a = 1 ∧ ∃ (w p q c : Int) (b1 b2 : Bool), sp_cok (6 + 2 * mm 582 - 1) w p q c ∧ (w ≠ 3 → c = 0) ∧ sv_JT S r f' m (l ++ tx_cmd w p q c b1 b2) ∧ lw_g (f' 478) (sp_ex w p q c mm) ∧ ∀ x, 479 ≤ x → f' x = f x) S r g)) 0 0 384 [some (sv_r 0), some (sv_r 478), some (sv_i x), some (sv_i n), some (sv_i 3), some (sv_i one), some (sv_i other), some (sv_i value), some (sv_i 1), none, none] [] S (f1) r g := by
    intro n one other value b1 f1 l1 hn h1 h2 h3 h4 hT hl1 hx
    have hll1 : (l1.length : Int) ≤ 67 := by
      rw [hl1]; simp only [List.length_append]; push_cast
      have q1 := tx_wd_4 3
      have q2 := tx_bl_1 b1
      have q3 := tx_dg_2 one
      omega
    have e32 := tx_1 32
    have e478 : f1 478 = f 478 := hx 478 (by decide)
    have nv := tx_nm_l value
    have no := tx_nm_l other
    have h3 := h3 (by decide)
    have hok : sp_cok (6 + 2 * mm 582 - 1) 3 one other value := ⟨by decide, by omega, fun z => absurd z (by decide), fun z => absurd z (by decide), fun z => absurd z (by decide), fun _ => by omega, by omega⟩
    have lpf : ∀ (kk : Nat) (i : Int) (f2 : sv_F) (l2 : List Int), other + 1 - i < (kk : Int) → (one ≤ i ∧ i ≤ other + 1) → (f2 478 = (fun j => if one ≤ j ∧ j < i then value else f 478 j)) → (∀ y, 479 ≤ y → f2 y = f y) → (sv_JT S r f2 m l2) → ((l2.length : Int) ≤ 77) → (∀ b2 : Bool, l2 ++ (tx_bl b2 ++ [59]) = l ++ tx_cmd 3 one other value b1 b2) → sv_T X (sv_rm 2 0 0) ML_types (sv_Zm X 0 0 (sv_qi (fun a f' => a = 1 ∧ ∃ (w p q c : Int) (b1 b2 : Bool), sp_cok (6 + 2 * mm 582 - 1) w p q c ∧ (w ≠ 3 → c = 0) ∧ sv_JT S r f' m (l ++ tx_cmd w p q c b1 b2) ∧ lw_g (f' 478) (sp_ex w p q c mm) ∧ ∀ x, 479 ≤ x → f' x = f x) S r g)) 0 0 436 [some (sv_r 0), some (sv_r 478), some (sv_i x), none, none, none, some (sv_i other), some (sv_i value), some (sv_i 1), some (sv_i i), none] [] S (f2) r g := by
      intro kk
      induction kk with
      | zero =>
        intro i f2 l2 hkk i0 hr2 hx3 hT hll hl2
        exact absurd hkk (by omega)
      | succ kk ih =>
        intro i f2 l2 hkk i0 hr2 hx3 hT hll hl2
        refine sv_iload dL_types_436 rfl ?_
        refine sv_iload dL_types_438 rfl ?_
        refine sv_icmp_gt (tgt := 455) dL_types_440 (by decide) (by unfold sv_in; omega) (by unfold sv_in; omega) (fun h_440 => ?_) (fun h_440 => ?_)
        · refine sv_goto (tgt := 530) dL_types_455 (by decide) ?_
          have hi : i = other + 1 := by omega
          subst hi
          refine sv_wk (p530 f2 l2 3 one other value b1 hT hll hl2 hok (fun z => absurd rfl z) ?_ hx3) (by simp [sv_sub]) rfl
          refine lw_g.ex (hi := 6 + 2 * mm 582 - 1) (fun j j0 j1 => ?_) (fun _ _ => rfl) ?_ ?_ ?_ ?_ ?_ rfl hF (fun j a b => hv j a (by omega)) hok
          · unfold sp_ex
            rw [if_neg (by decide), if_neg (by decide), if_neg (by decide), if_pos rfl, hr2]
            try dsimp only
            by_cases e : one ≤ j ∧ j ≤ other
            · rw [if_pos (by omega), if_pos (by omega)]
            · rw [if_neg (by omega), if_neg (by omega)]; exact g0 j j0 j1
          all_goals
            rw [hr2]
            try dsimp only
            rw [if_neg (by omega)]; assumption
        · refine sv_aload_n (i := 1) dL_types_443 rfl rfl ?_
          refine sv_iload dL_types_444 rfl ?_
          refine sv_iload dL_types_446 rfl ?_
          refine sv_iast dL_types_448 hlt hS.2.1 (by omega) (by unfold sv_in; omega) ?_
          refine sv_iinc dL_types_449 rfl (by decide) rfl ?_
          refine sv_goto (tgt := 436) dL_types_452 (by decide) ?_
          refine sv_cast (ih (i + 1) (sv_u f2 478 i value) l2 (by omega) (by omega) ?_ (fun y hy => by rw [sv_u_ne (by omega)]; exact hx3 y hy) (hT.hi (fun y hy => sv_u_ne (by omega))) hll hl2) rfl rfl rfl rfl rfl rfl
          funext j
          by_cases e : j = i
          · simp [sv_u, e]; intro z; omega
          · have : sv_u f2 478 i value 478 j = f2 478 j := by simp [sv_u, e]
            rw [this, hr2]
            try dsimp only
            by_cases e2 : one ≤ j ∧ j < i
            · rw [if_pos e2, if_pos (by omega)]
            · rw [if_neg e2, if_neg (by omega)]
    refine sv_iload dL_types_384 rfl ?_
    refine sv_if_eq (tgt := 429) dL_types_386 (by decide) (by decide) (fun h_386 => absurd h_386 (by decide)) (fun h_386 => ?_)
    refine sv_aload_n (i := 0) dL_types_389 rfl rfl ?_
    refine sv_bipush dL_types_390 (by decide) ?_
    refine sv_vi0 (As := [_]) clL_55 dL_types_392 ⟨_, rfl, rfl⟩ (by decide) rfl (Nat.le_of_ble_eq_true rfl) (by decide) (by decide) hT.j.k.1 hT.j.k.2 (J_type hT 32 (by decide) (by (try simp only [List.length_append]); (try push_cast); omega)) (fun at81 ft81 hft81 => ?_)
    obtain ⟨hat81, hT, hxt81⟩ := hft81
    have hx : ∀ x, 478 ≤ x → ft81 x = f x := fun x h => (hxt81 x h).trans (hx x h)
    have hpt81 : 0 < at81 ∧ at81 ≤ 90 := by
      try simp only [List.length_append] at hat81
      try push_cast at hat81
      omega
    clear hat81
    refine sv_if_le (tgt := 429) dL_types_395 (by decide) (by unfold sv_in; omega) (fun h_395 => absurd h_395 (by omega)) (fun h_395 => ?_)
    refine sv_aload_n (i := 0) dL_types_398 rfl rfl ?_
    refine sv_iload dL_types_399 rfl ?_
    refine sv_si0 (As := [_, _]) clL_78 dL_types_401 rfl (Nat.le_of_ble_eq_true rfl) (by decide) (by decide) (c_L_typesNumber hT (by (try simp only [List.length_append]); (try push_cast); omega) (v := other) (by omega)) (fun an82 fn82 hfn82 => ?_)
    obtain ⟨han82, hT, hxn82⟩ := hfn82
    have hx : ∀ x, 478 ≤ x → fn82 x = f x := fun x h => (hxn82 x h).trans (hx x h)
    refine sv_if_eq (tgt := 429) dL_types_404 (by decide) (by unfold sv_in; omega) (fun h_404 => absurd h_404 (by omega)) (fun h_404 => ?_)
    refine sv_aload_n (i := 0) dL_types_407 rfl rfl ?_
    refine sv_bipush dL_types_408 (by decide) ?_
    refine sv_vi0 (As := [_]) clL_55 dL_types_410 ⟨_, rfl, rfl⟩ (by decide) rfl (Nat.le_of_ble_eq_true rfl) (by decide) (by decide) hT.j.k.1 hT.j.k.2 (J_type hT 32 (by decide) (by (try simp only [List.length_append]); (try push_cast); omega)) (fun at83 ft83 hft83 => ?_)
    obtain ⟨hat83, hT, hxt83⟩ := hft83
    have hx : ∀ x, 478 ≤ x → ft83 x = f x := fun x h => (hxt83 x h).trans (hx x h)
    have hpt83 : 0 < at83 ∧ at83 ≤ 90 := by
      try simp only [List.length_append] at hat83
      try push_cast at hat83
      omega
    clear hat83
    refine sv_if_le (tgt := 429) dL_types_413 (by decide) (by unfold sv_in; omega) (fun h_413 => absurd h_413 (by omega)) (fun h_413 => ?_)
    refine sv_aload_n (i := 0) dL_types_416 rfl rfl ?_
    refine sv_iload dL_types_417 rfl ?_
    refine sv_si0 (As := [_, _]) clL_78 dL_types_419 rfl (Nat.le_of_ble_eq_true rfl) (by decide) (by decide) (c_L_typesNumber hT (by (try simp only [List.length_append]); (try push_cast); omega) (v := value) (by omega)) (fun an84 fn84 hfn84 => ?_)
    obtain ⟨han84, hT, hxn84⟩ := hfn84
    have hx : ∀ x, 478 ≤ x → fn84 x = f x := fun x h => (hxn84 x h).trans (hx x h)
    refine sv_if_eq (tgt := 429) dL_types_422 (by decide) (by unfold sv_in; omega) (fun h_422 => absurd h_422 (by omega)) (fun h_422 => ?_)
    refine sv_iconst dL_types_425 ?_
    refine sv_goto (tgt := 430) dL_types_426 (by decide) ?_
    refine sv_istore dL_types_430 (by decide) rfl ?_
    refine sv_iload dL_types_432 rfl ?_
    refine sv_istore dL_types_434 (by decide) rfl ?_
    refine sv_wk (lpf (other + 2 - one).toNat one _ _ (by omega) (by omega) ?_ (fun y hy => hx y (by omega)) hT (by (try simp only [List.length_append]); (try push_cast); omega) (fun b2 => by rw [hl1]; unfold tx_cmd; rw [if_neg (by omega), if_pos rfl, tx_nm_0 h2.1, tx_nm_0 h4.1]; simp [List.append_assoc])) (by simp [sv_sub]) rfl
    rw [hx 478 (by decide)]
    funext j
    rw [if_neg (by omega)]
  have k4 : ∀ (n one other value : Int) (b1 : Bool) (f1 : sv_F) (l1 : List Int), n = 6 + 2 * mm 582 → (0 ≤ one ∧ one < n) → (0 ≤ other ∧ other < n) → ((4 : Int) ≠ (2 : Int) → one ≤ other) → (0 ≤ value ∧ value < 100) → sv_JT S r f1 m l1 → l1 = l ++ (tx_wd (4 : Int) ++ (tx_bl b1 ++ tx_dg one)) → (∀ x, 478 ≤ x → f1 x = f x) → sv_T X (sv_rm 2 0 0) ML_types (sv_Zm X 0 0 (sv_qi (fun a f' => a = 1 ∧ ∃ (w p q c : Int) (b1 b2 : Bool), sp_cok (6 + 2 * mm 582 - 1) w p q c ∧ (w ≠ 3 → c = 0) ∧ sv_JT S r f' m (l ++ tx_cmd w p q c b1 b2) ∧ lw_g (f' 478) (sp_ex w p q c mm) ∧ ∀ x, 479 ≤ x → f' x = f x) S r g)) 0 0 458 [some (sv_r 0), some (sv_r 478), some (sv_i x), some (sv_i n), some (sv_i 4), some (sv_i one), some (sv_i other), some (sv_i value), some (sv_i 1), none, none] [] S (f1) r g := by
    intro n one other value b1 f1 l1 hn h1 h2 h3 h4 hT hl1 hx
    have hll1 : (l1.length : Int) ≤ 67 := by
      rw [hl1]; simp only [List.length_append]; push_cast
      have q1 := tx_wd_4 4
      have q2 := tx_bl_1 b1
      have q3 := tx_dg_2 one
      omega
    have e32 := tx_1 32
    have e478 : f1 478 = f 478 := hx 478 (by decide)
    have nv := tx_nm_l value
    have no := tx_nm_l other
    have h3 := h3 (by decide)
    have hgo := g0 other h2.1 (by omega)
    have hvo := hv other h2.1 (by omega)
    have hok : sp_cok (6 + 2 * mm 582 - 1) 4 one other 0 := ⟨by decide, by omega, fun z => absurd z (by decide), fun z => absurd z (by decide), fun z => absurd z (by decide), fun _ => by omega, by decide⟩
    have lpt : ∀ (kk : Nat) (i : Int) (f2 : sv_F), i - one < (kk : Int) → (one ≤ i ∧ i ≤ other) → (f2 478 = (fun j => if i < j ∧ j ≤ other then f 478 (j - 1) else f 478 j)) → (∀ y, 479 ≤ y → f2 y = f y) → (sv_JT S r f2 m l1) → sv_T X (sv_rm 2 0 0) ML_types (sv_Zm X 0 0 (sv_qi (fun a f' => a = 1 ∧ ∃ (w p q c : Int) (b1 b2 : Bool), sp_cok (6 + 2 * mm 582 - 1) w p q c ∧ (w ≠ 3 → c = 0) ∧ sv_JT S r f' m (l ++ tx_cmd w p q c b1 b2) ∧ lw_g (f' 478) (sp_ex w p q c mm) ∧ ∀ x, 479 ≤ x → f' x = f x) S r g)) 0 0 468 [some (sv_r 0), some (sv_r 478), some (sv_i x), none, none, some (sv_i one), some (sv_i other), none, some (sv_i 1), some (sv_i (mm (583 + other))), some (sv_i i)] [] S (f2) r g := by
      intro kk
      induction kk with
      | zero =>
        intro i f2 hkk i0 hr2 hx3 hT
        exact absurd hkk (by omega)
      | succ kk ih =>
        intro i f2 hkk i0 hr2 hx3 hT
        refine sv_iload dL_types_468 rfl ?_
        refine sv_iload dL_types_470 rfl ?_
        refine sv_icmp_le (tgt := 491) dL_types_472 (by decide) (by unfold sv_in; omega) (by unfold sv_in; omega) (fun h_472 => ?_) (fun h_472 => ?_)
        · refine sv_aload_n (i := 1) dL_types_491 rfl rfl ?_
          refine sv_iload dL_types_492 rfl ?_
          refine sv_iload dL_types_494 rfl ?_
          refine sv_iast dL_types_496 hlt hS.2.1 (by omega) (by unfold sv_in; omega) ?_
          have hi : i = one := by omega
          subst hi
          have hT := hT.hi (f' := sv_u f2 478 i (mm (583 + other))) (fun y hy => sv_u_ne (by omega))
          have hx : ∀ x, 478 ≤ x → sv_u f2 478 i (mm (583 + other)) x = sv_u f2 478 i (mm (583 + other)) x := fun _ _ => rfl
          refine sv_iload dL_types_497 rfl ?_
          refine sv_if_eq (tgt := 524) dL_types_499 (by decide) (by decide) (fun h_499 => absurd h_499 (by decide)) (fun h_499 => ?_)
          refine sv_aload_n (i := 0) dL_types_502 rfl rfl ?_
          refine sv_bipush dL_types_503 (by decide) ?_
          refine sv_vi0 (As := [_]) clL_55 dL_types_505 ⟨_, rfl, rfl⟩ (by decide) rfl (Nat.le_of_ble_eq_true rfl) (by decide) (by decide) hT.j.k.1 hT.j.k.2 (J_type hT 32 (by decide) (by (try simp only [List.length_append]); (try push_cast); omega)) (fun at101 ft101 hft101 => ?_)
          obtain ⟨hat101, hT, hxt101⟩ := hft101
          have hx : ∀ x, 478 ≤ x → ft101 x = sv_u f2 478 i (mm (583 + other)) x := fun x h => (hxt101 x h).trans (hx x h)
          have hpt101 : 0 < at101 ∧ at101 ≤ 90 := by
            try simp only [List.length_append] at hat101
            try push_cast at hat101
            omega
          clear hat101
          refine sv_if_le (tgt := 524) dL_types_508 (by decide) (by unfold sv_in; omega) (fun h_508 => absurd h_508 (by omega)) (fun h_508 => ?_)
          refine sv_aload_n (i := 0) dL_types_511 rfl rfl ?_
          refine sv_iload dL_types_512 rfl ?_
          refine sv_si0 (As := [_, _]) clL_78 dL_types_514 rfl (Nat.le_of_ble_eq_true rfl) (by decide) (by decide) (c_L_typesNumber hT (by (try simp only [List.length_append]); (try push_cast); omega) (v := other) (by omega)) (fun an102 fn102 hfn102 => ?_)
          obtain ⟨han102, hT, hxn102⟩ := hfn102
          have hx : ∀ x, 478 ≤ x → fn102 x = sv_u f2 478 i (mm (583 + other)) x := fun x h => (hxn102 x h).trans (hx x h)
          refine sv_if_eq (tgt := 524) dL_types_517 (by decide) (by unfold sv_in; omega) (fun h_517 => absurd h_517 (by omega)) (fun h_517 => ?_)
          refine sv_iconst dL_types_520 ?_
          refine sv_goto (tgt := 525) dL_types_521 (by decide) ?_
          refine sv_istore dL_types_525 (by decide) rfl ?_
          refine sv_goto (tgt := 530) dL_types_527 (by decide) ?_
          refine sv_wk (p530 _ _ 4 i other 0 b1 hT (by (try simp only [List.length_append]); (try push_cast); omega) (fun b2 => by rw [hl1]; unfold tx_cmd; rw [if_neg (by omega), if_neg (by decide)]; simp [List.append_assoc]) hok (fun _ => rfl) ?_ (fun y hy => by rw [hx y (by omega), sv_u_ne (by omega)]; exact hx3 y hy)) (by simp [sv_sub]) rfl
          rw [hx 478 (by decide)]
          refine lw_g.ex (hi := 6 + 2 * mm 582 - 1) (fun j j0 j1 => ?_) (fun _ _ => rfl) ?_ ?_ ?_ ?_ ?_ rfl hF (fun j a b => hv j a (by omega)) hok
          · unfold sp_ex
            rw [if_neg (by decide), if_neg (by decide), if_neg (by decide), if_neg (by decide)]
            try dsimp only
            by_cases e : j = i
            · rw [if_pos (by omega)]; simp [sv_u, e]
            · have : sv_u f2 478 i (mm (583 + other)) 478 j = f2 478 j := by simp [sv_u, e]
              rw [if_neg (by omega), this, hr2]
              try dsimp only
              by_cases e2 : i < j ∧ j ≤ other
              · rw [if_pos e2, if_pos (by omega), show 583 + j - 1 = 583 + (j - 1) by omega]; exact g0 (j - 1) (by omega) (by omega)
              · rw [if_neg e2, if_neg (by omega)]; exact g0 j j0 j1
          all_goals
            have : ∀ (k : Int), k ≠ i → sv_u f2 478 i (mm (583 + other)) 478 k = f2 478 k := fun k hk => by simp [sv_u, hk]
            rw [this _ (by omega), hr2]
            try dsimp only
            rw [if_neg (by omega)]; assumption
        · have hgi : f2 478 (i - 1) = mm (583 + (i - 1)) := by
            rw [hr2]
            try dsimp only
            rw [if_neg (by omega)]; exact g0 (i - 1) (by omega) (by omega)
          have hvi := hv (i - 1) (by omega) (by omega)
          refine sv_aload_n (i := 1) dL_types_475 rfl rfl ?_
          refine sv_iload dL_types_476 rfl ?_
          refine sv_aload_n (i := 1) dL_types_478 rfl rfl ?_
          refine sv_iload dL_types_479 rfl ?_
          refine sv_iconst dL_types_481 ?_
          refine sv_isub dL_types_482 ?_
          refine sv_iald dL_types_483 hlt hS.2.1 (by omega) ?_
          refine sv_iast dL_types_484 hlt hS.2.1 (by omega) (by rw [hgi]; unfold sv_in; omega) ?_
          refine sv_iinc dL_types_485 rfl (by decide) rfl ?_
          refine sv_goto (tgt := 468) dL_types_488 (by decide) ?_
          refine sv_cast (ih (i + -1) (sv_u f2 478 i (f2 478 (i - 1))) (by omega) (by omega) ?_ (fun y hy => by rw [sv_u_ne (by omega)]; exact hx3 y hy) (hT.hi (fun y hy => sv_u_ne (by omega)))) rfl rfl rfl rfl rfl rfl
          funext j
          by_cases e : j = i
          · have : sv_u f2 478 i (f2 478 (i - 1)) 478 j = f2 478 (i - 1) := by simp [sv_u, e]
            rw [this, hr2]
            try dsimp only
            rw [if_neg (by omega), if_pos (by omega), e]
          · have : sv_u f2 478 i (f2 478 (i - 1)) 478 j = f2 478 j := by simp [sv_u, e]
            rw [this, hr2]
            try dsimp only
            by_cases e2 : i < j ∧ j ≤ other
            · rw [if_pos e2, if_pos (by omega)]
            · rw [if_neg e2, if_neg (by omega)]
    refine sv_aload_n (i := 1) dL_types_458 rfl rfl ?_
    refine sv_iload dL_types_459 rfl ?_
    refine sv_iald dL_types_461 hlt hS.2.1 (by omega) ?_
    rw [e478, hgo]
    refine sv_istore dL_types_462 (by decide) rfl ?_
    refine sv_iload dL_types_464 rfl ?_
    refine sv_istore dL_types_466 (by decide) rfl ?_
    refine sv_wk (lpt (other + 1 - one).toNat other f1 (by omega) (by omega) ?_ (fun y hy => hx y (by omega)) hT) (by simp [sv_sub]) rfl
    rw [e478]
    funext j
    rw [if_neg (by omega)]
  have p143 : ∀ (n kd one other value : Int) (b1 : Bool) (f1 : sv_F) (l1 : List Int), (0 ≤ kd ∧ kd < 5) → n = 6 + 2 * mm 582 → (0 ≤ one ∧ one < n) → (0 ≤ other ∧ other < n) → (kd ≠ 2 → one ≤ other) → (0 ≤ value ∧ value < 100) → sv_JT S r f1 m l1 → l1 = l ++ (tx_wd kd ++ tx_bl b1) → (∀ x, 478 ≤ x → f1 x = f x) → sv_T X (sv_rm 2 0 0) ML_types (sv_Zm X 0 0 (sv_qi (fun a f' => a = 1 ∧ ∃ (w p q c : Int) (b1 b2 : Bool), sp_cok (6 + 2 * mm 582 - 1) w p q c ∧ (w ≠ 3 → c = 0) ∧ sv_JT S r f' m (l ++ tx_cmd w p q c b1 b2) ∧ lw_g (f' 478) (sp_ex w p q c mm) ∧ ∀ x, 479 ≤ x → f' x = f x) S r g)) 0 0 143 [some (sv_r 0), some (sv_r 478), some (sv_i x), some (sv_i n), some (sv_i kd), some (sv_i one), some (sv_i other), some (sv_i value), none, none, none] [] S (f1) r g := by
    intro n kd one other value b1 f1 l1 hkd hn h1 h2 h3 h4 hT hl1 hx
    have hll1 : (l1.length : Int) ≤ 65 := by
      rw [hl1]; simp only [List.length_append]; push_cast
      have q1 := tx_wd_4 kd
      have q2 := tx_bl_1 b1
      omega
    refine sv_aload_n (i := 0) dL_types_143 rfl rfl ?_
    refine sv_iload dL_types_144 rfl ?_
    refine sv_si0 (As := [_, _]) clL_78 dL_types_146 rfl (Nat.le_of_ble_eq_true rfl) (by decide) (by decide) (c_L_typesNumber hT (by (try simp only [List.length_append]); (try push_cast); omega) (v := one) (by omega)) (fun an121 fn121 hfn121 => ?_)
    obtain ⟨han121, hT, hxn121⟩ := hfn121
    have hx : ∀ x, 478 ≤ x → fn121 x = f x := fun x h => (hxn121 x h).trans (hx x h)
    refine sv_if_eq (tgt := 156) dL_types_149 (by decide) (by unfold sv_in; omega) (fun h_149 => absurd h_149 (by omega)) (fun h_149 => ?_)
    refine sv_iconst dL_types_152 ?_
    refine sv_goto (tgt := 157) dL_types_153 (by decide) ?_
    refine sv_istore dL_types_157 (by decide) rfl ?_
    refine sv_iload dL_types_159 rfl ?_
    have hl3 : l1 ++ tx_nm one = l ++ (tx_wd kd ++ (tx_bl b1 ++ tx_dg one)) := by rw [hl1, tx_nm_0 h1.1]; simp [List.append_assoc]
    rcases (show kd = 0 ∨ kd = 1 ∨ kd = 2 ∨ kd = 3 ∨ kd = 4 by omega) with rfl | rfl | rfl | rfl | rfl
    · exact sv_tsw (off := 31) (tgt := 192) dL_types_161 (by decide) (by decide) (by decide) rfl (by decide) (k0 n one other value b1 _ _ hn h1 h2 h3 h4 hT hl3 hx)
    · exact sv_tsw (off := 70) (tgt := 231) dL_types_161 (by decide) (by decide) (by decide) rfl (by decide) (k1 n one other value b1 _ _ hn h1 h2 h3 h4 hT hl3 hx)
    · exact sv_tsw (off := 170) (tgt := 331) dL_types_161 (by decide) (by decide) (by decide) rfl (by decide) (k2 n one other value b1 _ _ hn h1 h2 h3 h4 hT hl3 hx)
    · exact sv_tsw (off := 223) (tgt := 384) dL_types_161 (by decide) (by decide) (by decide) rfl (by decide) (k3 n one other value b1 _ _ hn h1 h2 h3 h4 hT hl3 hx)
    · exact sv_tswd (tgt := 458) dL_types_161 (by decide) (Or.inr (by decide)) (by decide) (k4 n one other value b1 _ _ hn h1 h2 h3 h4 hT hl3 hx)
  have p119 : ∀ (n kd one other value : Int), (0 ≤ kd ∧ kd < 5) → n = 6 + 2 * mm 582 → (0 ≤ one ∧ one < n) → (0 ≤ other ∧ other < n) → (kd ≠ 2 → one ≤ other) → (0 ≤ value ∧ value < 100) → sv_T X (sv_rm 2 0 0) ML_types (sv_Zm X 0 0 (sv_qi (fun a f' => a = 1 ∧ ∃ (w p q c : Int) (b1 b2 : Bool), sp_cok (6 + 2 * mm 582 - 1) w p q c ∧ (w ≠ 3 → c = 0) ∧ sv_JT S r f' m (l ++ tx_cmd w p q c b1 b2) ∧ lw_g (f' 478) (sp_ex w p q c mm) ∧ ∀ x, 479 ≤ x → f' x = f x) S r g)) 0 0 119 [some (sv_r 0), some (sv_r 478), some (sv_i x), some (sv_i n), some (sv_i kd), some (sv_i one), some (sv_i other), some (sv_i value), none, none, none] [sv_l (tx_lo kd), sv_r 0] S (f) r g := by
    intro n kd one other value hkd hn h1 h2 h3 h4
    refine sv_si0 (As := [_, _]) clL_74 dL_types_119 rfl (Nat.le_of_ble_eq_true rfl) (by decide) (by decide) (c_L_spells hT (by omega) (tx_cs_ok (w := kd) (by omega)).1) (fun as1 fs1 hfs1 => ?_)
    obtain ⟨has1, hT, hxs1⟩ := hfs1
    have hx : ∀ x, 478 ≤ x → fs1 x = f x := fun x h => (hxs1 x h).trans (hx x h)
    rw [(tx_cs_ok (w := kd) (by omega)).2] at hT
    have hwd := tx_wd_4 kd
    refine sv_if_eq (tgt := 156) dL_types_122 (by decide) (by unfold sv_in; omega) (fun h_122 => absurd h_122 (by omega)) (fun h_122 => ?_)
    refine sv_iload_n (i := 2) dL_types_125 rfl rfl ?_
    refine sv_bipush dL_types_126 (by decide) ?_
    refine sv_ishrU dL_types_128 (fun z_128 hz_128 => ?_)
    refine sv_iconst dL_types_129 ?_
    refine sv_iandU dL_types_130 (fun z_130 hz_130 => ?_)
    refine sv_if_eq (tgt := 143) dL_types_131 (by decide) hz_130 (fun h_131 => ?_) (fun h_131 => ?_)
    · by_cases hz : z_130 = 0
      · first
        | exact absurd hz h_131
        | exact p143 n kd one other value false _ _ hkd hn h1 h2 h3 h4 hT (by simp [tx_bl]) hx
      · first
        | exact absurd h_131 hz
        | exact p143 n kd one other value true _ _ hkd hn h1 h2 h3 h4 hT (by simp [tx_bl]) hx
    · refine sv_aload_n (i := 0) dL_types_134 rfl rfl ?_
      refine sv_bipush dL_types_135 (by decide) ?_
      refine sv_vi0 (As := [_]) clL_55 dL_types_137 ⟨_, rfl, rfl⟩ (by decide) rfl (Nat.le_of_ble_eq_true rfl) (by decide) (by decide) hT.j.k.1 hT.j.k.2 (J_type hT 32 (by decide) (by (try simp only [List.length_append]); (try push_cast); omega)) (fun at141 ft141 hft141 => ?_)
      obtain ⟨hat141, hT, hxt141⟩ := hft141
      have hx : ∀ x, 478 ≤ x → ft141 x = f x := fun x h => (hxt141 x h).trans (hx x h)
      have hpt141 : 0 < at141 ∧ at141 ≤ 90 := by
        try simp only [List.length_append] at hat141
        try push_cast at hat141
        omega
      clear hat141
      refine sv_if_le (tgt := 156) dL_types_140 (by decide) (by unfold sv_in; omega) (fun h_140 => absurd h_140 (by omega)) (fun h_140 => ?_)
      by_cases hz : z_130 = 0
      · first
        | exact absurd hz h_131
        | exact p143 n kd one other value false _ _ hkd hn h1 h2 h3 h4 hT (by simp [tx_bl]) hx
      · first
        | exact absurd h_131 hz
        | exact p143 n kd one other value true _ _ hkd hn h1 h2 h3 h4 hT (by simp [tx_bl]) hx
  have p57 : ∀ (n kd one other : Int), (0 ≤ kd ∧ kd < 5) → n = 6 + 2 * mm 582 → (0 ≤ one ∧ one < n) → (0 ≤ other ∧ other < n) → (kd ≠ 2 → one ≤ other) → sv_T X (sv_rm 2 0 0) ML_types (sv_Zm X 0 0 (sv_qi (fun a f' => a = 1 ∧ ∃ (w p q c : Int) (b1 b2 : Bool), sp_cok (6 + 2 * mm 582 - 1) w p q c ∧ (w ≠ 3 → c = 0) ∧ sv_JT S r f' m (l ++ tx_cmd w p q c b1 b2) ∧ lw_g (f' 478) (sp_ex w p q c mm) ∧ ∀ x, 479 ≤ x → f' x = f x) S r g)) 0 0 57 [some (sv_r 0), some (sv_r 478), some (sv_i x), some (sv_i n), some (sv_i kd), some (sv_i one), some (sv_i other), none, none, none, none] [] S (f) r g := by
    intro n kd one other hkd hn h1 h2 h3
    refine sv_iload_n (i := 2) dL_types_57 rfl rfl ?_
    refine sv_bipush dL_types_58 (by decide) ?_
    refine sv_ishrU dL_types_60 (fun z_60 hz_60 => ?_)
    refine sv_bipush dL_types_61 (by decide) ?_
    refine sv_su0 (As := [_, _]) clL_60 dL_types_63 rfl (Nat.le_of_ble_eq_true rfl) (by decide) (by decide) (c_L_low (by decide)) (fun a_63 hb_63 => ?_)
    refine sv_istore dL_types_66 (by decide) rfl ?_
    refine sv_aload_n (i := 0) dL_types_68 rfl rfl ?_
    refine sv_iload dL_types_69 rfl ?_
    refine sv_if_ne (tgt := 80) dL_types_71 (by decide) (by unfold sv_in; omega) (fun h_71 => ?_) (fun h_71 => ?_)
    · refine sv_iload dL_types_80 rfl ?_
      refine sv_iconst dL_types_82 ?_
      refine sv_icmp_ne (tgt := 92) dL_types_83 (by decide) (by unfold sv_in; omega) (by decide) (fun h_83 => ?_) (fun h_83 => ?_)
      · refine sv_iload dL_types_92 rfl ?_
        refine sv_iconst dL_types_94 ?_
        refine sv_icmp_ne (tgt := 104) dL_types_95 (by decide) (by unfold sv_in; omega) (by decide) (fun h_95 => ?_) (fun h_95 => ?_)
        · refine sv_iload dL_types_104 rfl ?_
          refine sv_iconst dL_types_106 ?_
          refine sv_icmp_ne (tgt := 116) dL_types_107 (by decide) (by unfold sv_in; omega) (by decide) (fun h_107 => ?_) (fun h_107 => ?_)
          · refine sv_ldc2 (n := 1953854062) dL_types_116 (List.mem_of_getElem? (i := 435) (by decide +kernel)) ?_
            refine sv_cast (p119 n kd one other a_63 hkd hn h1 h2 h3 hb_63) rfl rfl rfl rfl ?_ rfl
            unfold tx_lo
            first
            | rw [if_pos (by omega)]
            | rw [if_neg (by omega), if_pos (by omega)]
            | rw [if_neg (by omega), if_neg (by omega), if_pos (by omega)]
            | rw [if_neg (by omega), if_neg (by omega), if_neg (by omega), if_pos (by omega)]
            | rw [if_neg (by omega), if_neg (by omega), if_neg (by omega), if_neg (by omega)]
          · refine sv_ldc2 (n := 1718185068) dL_types_110 (List.mem_of_getElem? (i := 434) (by decide +kernel)) ?_
            refine sv_goto (tgt := 119) dL_types_113 (by decide) ?_
            refine sv_cast (p119 n kd one other a_63 hkd hn h1 h2 h3 hb_63) rfl rfl rfl rfl ?_ rfl
            unfold tx_lo
            first
            | rw [if_pos (by omega)]
            | rw [if_neg (by omega), if_pos (by omega)]
            | rw [if_neg (by omega), if_neg (by omega), if_pos (by omega)]
            | rw [if_neg (by omega), if_neg (by omega), if_neg (by omega), if_pos (by omega)]
            | rw [if_neg (by omega), if_neg (by omega), if_neg (by omega), if_neg (by omega)]
        · refine sv_ldc2 (n := 1937203568) dL_types_98 (List.mem_of_getElem? (i := 433) (by decide +kernel)) ?_
          refine sv_goto (tgt := 119) dL_types_101 (by decide) ?_
          refine sv_cast (p119 n kd one other a_63 hkd hn h1 h2 h3 hb_63) rfl rfl rfl rfl ?_ rfl
          unfold tx_lo
          first
          | rw [if_pos (by omega)]
          | rw [if_neg (by omega), if_pos (by omega)]
          | rw [if_neg (by omega), if_neg (by omega), if_pos (by omega)]
          | rw [if_neg (by omega), if_neg (by omega), if_neg (by omega), if_pos (by omega)]
          | rw [if_neg (by omega), if_neg (by omega), if_neg (by omega), if_neg (by omega)]
      · refine sv_ldc2 (n := 6382692) dL_types_86 (List.mem_of_getElem? (i := 432) (by decide +kernel)) ?_
        refine sv_goto (tgt := 119) dL_types_89 (by decide) ?_
        refine sv_cast (p119 n kd one other a_63 hkd hn h1 h2 h3 hb_63) rfl rfl rfl rfl ?_ rfl
        unfold tx_lo
        first
        | rw [if_pos (by omega)]
        | rw [if_neg (by omega), if_pos (by omega)]
        | rw [if_neg (by omega), if_neg (by omega), if_pos (by omega)]
        | rw [if_neg (by omega), if_neg (by omega), if_neg (by omega), if_pos (by omega)]
        | rw [if_neg (by omega), if_neg (by omega), if_neg (by omega), if_neg (by omega)]
    · refine sv_ldc2 (n := 7562612) dL_types_74 (List.mem_of_getElem? (i := 431) (by decide +kernel)) ?_
      refine sv_goto (tgt := 119) dL_types_77 (by decide) ?_
      refine sv_cast (p119 n kd one other a_63 hkd hn h1 h2 h3 hb_63) rfl rfl rfl rfl ?_ rfl
      unfold tx_lo
      first
      | rw [if_pos (by omega)]
      | rw [if_neg (by omega), if_pos (by omega)]
      | rw [if_neg (by omega), if_neg (by omega), if_pos (by omega)]
      | rw [if_neg (by omega), if_neg (by omega), if_neg (by omega), if_pos (by omega)]
      | rw [if_neg (by omega), if_neg (by omega), if_neg (by omega), if_neg (by omega)]
  refine sv_aload_n (i := 1) dL_types_0 rfl rfl ?_
  refine sv_bipush dL_types_1 (by decide) ?_
  refine sv_iald dL_types_3 hlt hS.2.1 (by decide) ?_
  refine sv_sp0 (As := [_]) clL_11 dL_types_4 rfl (Nat.le_of_ble_eq_true rfl) (by decide) (by decide) (c_L_many (F := f 478 12) (by omega)) ?_
  refine sv_istore_n (i := 3) dL_types_7 rfl (by decide) rfl ?_
  refine sv_iload_n (i := 2) dL_types_8 rfl rfl ?_
  refine sv_iconst dL_types_9 ?_
  refine sv_su0 (As := [_, _]) clL_60 dL_types_10 rfl (Nat.le_of_ble_eq_true rfl) (by decide) (by decide) (c_L_low (by decide)) (fun a_10 hb_10 => ?_)
  refine sv_istore dL_types_13 (by decide) rfl ?_
  refine sv_iload_n (i := 2) dL_types_15 rfl rfl ?_
  refine sv_iconst dL_types_16 ?_
  refine sv_ishrU dL_types_17 (fun z_17 hz_17 => ?_)
  refine sv_iload_n (i := 3) dL_types_18 rfl rfl ?_
  refine sv_su0 (As := [_, _]) clL_60 dL_types_19 rfl (Nat.le_of_ble_eq_true rfl) (by decide) (by decide) (c_L_low (by omega)) (fun a_19 hb_19 => ?_)
  refine sv_istore dL_types_22 (by decide) rfl ?_
  refine sv_iload dL_types_24 rfl ?_
  refine sv_iconst dL_types_26 ?_
  refine sv_icmp_ne (tgt := 41) dL_types_27 (by decide) (by unfold sv_in; omega) (by decide) (fun h_27 => ?_) (fun h_27 => ?_)
  · refine sv_iload dL_types_41 rfl ?_
    refine sv_iload_n (i := 2) dL_types_43 rfl rfl ?_
    refine sv_bipush dL_types_44 (by decide) ?_
    refine sv_ishrU dL_types_46 (fun z_46 hz_46 => ?_)
    refine sv_iload_n (i := 3) dL_types_47 rfl rfl ?_
    refine sv_iload dL_types_48 rfl ?_
    refine sv_isub dL_types_50 ?_
    refine sv_su0 (As := [_, _]) clL_60 dL_types_51 rfl (Nat.le_of_ble_eq_true rfl) (by decide) (by decide) (c_L_low (by omega)) (fun a_51 hb_51 => ?_)
    refine sv_iadd dL_types_54 ?_
    refine sv_istore dL_types_55 (by decide) rfl ?_
    exact p57 _ _ _ _ hb_10 (by rw [g12]) hb_19 (by omega) (by omega)
  · refine sv_iload_n (i := 2) dL_types_30 rfl rfl ?_
    refine sv_bipush dL_types_31 (by decide) ?_
    refine sv_ishrU dL_types_33 (fun z_33 hz_33 => ?_)
    refine sv_iload_n (i := 3) dL_types_34 rfl rfl ?_
    refine sv_su0 (As := [_, _]) clL_60 dL_types_35 rfl (Nat.le_of_ble_eq_true rfl) (by decide) (by decide) (c_L_low (by omega)) (fun a_35 hb_35 => ?_)
    refine sv_goto (tgt := 55) dL_types_38 (by decide) ?_
    refine sv_istore dL_types_55 (by decide) rfl ?_
    exact p57 _ _ _ _ hb_10 (by rw [g12]) hb_19 (by omega) (by omega)
