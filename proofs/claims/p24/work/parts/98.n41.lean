section SVMV
variable {S S' : sv_S} {r r' : sv_R} {q d fo rs sc tx vs : Nat} {kp fd : Int → Nat}
theorem sv_K1.mv (h : sv_K1 S r q kp) (h1 : S.1 ≤ S'.1) (h2 : ∀ x, x < S.1 → S'.2 x = S.2 x) (h3 : ∀ x, q ≤ x → x < q + 64 → r' x = r x) : sv_K1 S' r' q kp := by
  obtain ⟨a1, a2, a3, a4, a5, a6, a7⟩ := h
  unfold sv_K1
  rw [h3 q (by omega) (by omega), h3 (q + 3) (by omega) (by omega), h2 q (by omega), h2 (q + 1) (by omega), h2 (q + 2) (by omega), h2 (q + 3) (by omega)]
  exact ⟨by omega, a2, a3, a4, a5, fun p p0 p1 => ⟨(a6 p p0 p1).1, (a6 p p0 p1).2.1, (a6 p p0 p1).2.2.mv h1 h2 (h3 _ (by have := (a6 p p0 p1).2.1; omega) (by have := (a6 p p0 p1).2.1; omega))⟩, a7⟩
theorem sv_K2.mv (h : sv_K2 S r d fo rs fd) (h1 : S.1 ≤ S'.1) (h2 : ∀ x, x < S.1 → S'.2 x = S.2 x) (h3 : r' d = r d) (h4 : r' fo = r fo) : sv_K2 S' r' d fo rs fd := by
  obtain ⟨a1, a2, a3, a4, a5, a6⟩ := h
  unfold sv_K2
  rw [h3, h4, h2 d a1, h2 fo a3.2.1, h2 rs a4.2.1]
  exact ⟨by omega, a2, ⟨a3.1, by omega, a3.2.2⟩, ⟨a4.1, by omega, a4.2.2⟩, fun p p0 p1 => ⟨(a5 p p0 p1).1, by have := (a5 p p0 p1).2.1; omega, by rw [h2 _ (a5 p p0 p1).2.1]; exact (a5 p p0 p1).2.2.1, (a5 p p0 p1).2.2.2⟩, a6⟩
theorem sv_K3.mv (h : sv_K3 S r sc tx vs) (h1 : S.1 ≤ S'.1) (h2 : ∀ x, x < S.1 → S'.2 x = S.2 x) (h3 : r' sc = r sc) : sv_K3 S' r' sc tx vs := by
  obtain ⟨a1, a2, a3, a4, a5⟩ := h
  unfold sv_K3
  rw [h3, h2 sc a1, h2 tx a3.2.1, h2 vs a4.2.1]
  exact ⟨by omega, a2, ⟨a3.1, by omega, a3.2.2⟩, ⟨a4.1, by omega, a4.2.2⟩, a5⟩
end SVMV
/-- where the Kepts of a Moment at q stand; the rows of a Reading at d; the history's Moments -/
def sv_kp (q : Nat) : Int → Nat := fun p => q + 4 + 3 * p.toNat
def sv_fd (d : Nat) : Int → Nat := fun p => d + 2 + p.toNat
def sv_mp (i : Nat) : Int → Nat := fun n => i + 94 + 64 * n.toNat
def sv_kq (i : Nat) : Int → Int → Nat := fun n => sv_kp (sv_mp i n)
theorem sv_sep0 (i : Nat) : sv_sep i (i + 1) (i + 92) (i + 93) (i + 66) (i + 67) (i + 68) (i + 91) (sv_fd (i + 69)) := by
  refine ⟨fun x hx => ⟨by omega, by omega, fun p p0 p1 => by unfold sv_fd; omega⟩, by omega, fun p p0 p1 => by unfold sv_fd; omega, by omega, by omega, by omega, by omega, by omega⟩
set_option maxRecDepth 100000 in
set_option maxHeartbeats 4000000 in
theorem c_X4_init {X : sv_X} {S : sv_S} {f : sv_F} {r : sv_R} {g : sv_G} {i : Nat} (hi : S.1 = i + 1) (hk : (S.2 i).1 = 4) (hb : sv_bl S f r g) : sv_C X 3 MX4_init 477 5037 [sv_r i] S f r g ((fun rv' S' f' r' g' => rv' = none ∧ S'.1 = i + 478 ∧ (∀ x, x < i + 1 → S'.2 x = S.2 x) ∧ sv_K4 S' r' i (i + 1) (i + 69) (i + 92) (i + 93) (i + 65) (i + 66) ∧ sv_K1 S' r' (i + 1) (sv_kp (i + 1)) ∧ sv_K2 S' r' (i + 69) (i + 70) (i + 91) (sv_fd (i + 69)) ∧ sv_K3 S' r' (i + 66) (i + 67) (i + 68) ∧ sv_HI S' r' i (i + 1) (i + 92) (i + 93) (i + 66) (i + 67) (i + 68) (i + 91) (sv_fd (i + 69)) (i + 65) (sv_mp i) (sv_kq i) ∧ (f' (i + 1) 0 = 1 ∧ f' (i + 1) 1 = -1 ∧ f' (i + 1) 2 = 0 ∧ f' (i + 1) 3 = 0 ∧ f' (i + 2) = (fun _ => 0) ∧ f' (i + 3) 0 = 4 ∧ f' (i + 3) 1 = 1) ∧ f' i 2 = 0 ∧ f' (i + 66) 1 = 0 ∧ f' (i + 67) = (fun _ => 0) ∧ (∀ x, x < i → f' x = f x ∧ r' x = r x) ∧ g' = g ∧ sv_bl S' f' r' g')) := by
  refine sv_met (by decide) (by simp [lg_sl, sv_cv, va_rf, Value.category]) ?_
  refine sv_fr fun hin => ?_
  have big : ∀ (S9 : sv_S) (f5 : sv_F) (R9 : sv_R), S9.1 = i + 94 → (∀ x, x < i + 1 → S9.2 x = S.2 x) → (S9.2 i).1 = 4 → S9.2 (i + 65) = (9, 6) → R9 i 1 = some (i + 65) → sv_K4 S9 R9 i (i + 1) (i + 69) (i + 92) (i + 93) (i + 65) (i + 66) → sv_K1 S9 R9 (i + 1) (sv_kp (i + 1)) → sv_K2 S9 R9 (i + 69) (i + 70) (i + 91) (sv_fd (i + 69)) → sv_K3 S9 R9 (i + 66) (i + 67) (i + 68) → (f5 (i + 1) 0 = 1 ∧ f5 (i + 1) 1 = -1 ∧ f5 (i + 1) 2 = 0 ∧ f5 (i + 1) 3 = 0 ∧ f5 (i + 2) = (fun _ => 0) ∧ f5 (i + 3) 0 = 4 ∧ f5 (i + 3) 1 = 1) → f5 i 2 = 0 → f5 (i + 66) 1 = 0 → f5 (i + 67) = (fun _ => 0) → (∀ x, x < i → f5 x = f x ∧ R9 x = r x) → sv_bl S9 f5 R9 g → sv_T X (sv_rm 3 477 5037) MX4_init (sv_Zm X 477 5037 ((fun rv' S' f' r' g' => rv' = none ∧ S'.1 = i + 478 ∧ (∀ x, x < i + 1 → S'.2 x = S.2 x) ∧ sv_K4 S' r' i (i + 1) (i + 69) (i + 92) (i + 93) (i + 65) (i + 66) ∧ sv_K1 S' r' (i + 1) (sv_kp (i + 1)) ∧ sv_K2 S' r' (i + 69) (i + 70) (i + 91) (sv_fd (i + 69)) ∧ sv_K3 S' r' (i + 66) (i + 67) (i + 68) ∧ sv_HI S' r' i (i + 1) (i + 92) (i + 93) (i + 66) (i + 67) (i + 68) (i + 91) (sv_fd (i + 69)) (i + 65) (sv_mp i) (sv_kq i) ∧ (f' (i + 1) 0 = 1 ∧ f' (i + 1) 1 = -1 ∧ f' (i + 1) 2 = 0 ∧ f' (i + 1) 3 = 0 ∧ f' (i + 2) = (fun _ => 0) ∧ f' (i + 3) 0 = 4 ∧ f' (i + 3) 1 = 1) ∧ f' i 2 = 0 ∧ f' (i + 66) 1 = 0 ∧ f' (i + 67) = (fun _ => 0) ∧ (∀ x, x < i → f' x = f x ∧ r' x = r x) ∧ g' = g ∧ sv_bl S' f' r' g'))) 93 1071 69 [some (sv_r i), some (sv_i 0)] [] S9 (f5) R9 g := by
    intro S9 f5 R9 z9 hlow hkV9 hpa9 hq1 hV9 hM9 hR9 hC9 hv9 hu9 hl9 ht9 hlo9 hb9
    have lp : ∀ (kk : Nat) (n : Nat) (S1 : sv_S) (f1 : sv_F) (r1 : sv_R), 6 - (n : Int) < (kk : Int) → (n ≤ 6) → (S1.1 = i + 94 + 64 * n) → (∀ x, x < i + 94 → S1.2 x = S9.2 x) → (∀ x, x < i + 94 → x ≠ i + 65 → r1 x = R9 x) → (∀ x, x < i + 94 → f1 x = f5 x) → (∀ j : Nat, j < n → r1 (i + 65) (j : Int) = some (i + 94 + 64 * j) ∧ sv_K1 S1 r1 (i + 94 + 64 * j) (sv_kp (i + 94 + 64 * j))) → (sv_bl S1 f1 r1 g) → sv_T X (sv_rm 3 477 5037) MX4_init (sv_Zm X 477 5037 ((fun rv' S' f' r' g' => rv' = none ∧ S'.1 = i + 478 ∧ (∀ x, x < i + 1 → S'.2 x = S.2 x) ∧ sv_K4 S' r' i (i + 1) (i + 69) (i + 92) (i + 93) (i + 65) (i + 66) ∧ sv_K1 S' r' (i + 1) (sv_kp (i + 1)) ∧ sv_K2 S' r' (i + 69) (i + 70) (i + 91) (sv_fd (i + 69)) ∧ sv_K3 S' r' (i + 66) (i + 67) (i + 68) ∧ sv_HI S' r' i (i + 1) (i + 92) (i + 93) (i + 66) (i + 67) (i + 68) (i + 91) (sv_fd (i + 69)) (i + 65) (sv_mp i) (sv_kq i) ∧ (f' (i + 1) 0 = 1 ∧ f' (i + 1) 1 = -1 ∧ f' (i + 1) 2 = 0 ∧ f' (i + 1) 3 = 0 ∧ f' (i + 2) = (fun _ => 0) ∧ f' (i + 3) 0 = 4 ∧ f' (i + 3) 1 = 1) ∧ f' i 2 = 0 ∧ f' (i + 66) 1 = 0 ∧ f' (i + 67) = (fun _ => 0) ∧ (∀ x, x < i → f' x = f x ∧ r' x = r x) ∧ g' = g ∧ sv_bl S' f' r' g'))) (93 + 64 * n) (1071 + 661 * n) 69 [some (sv_r i), some (sv_i (n : Nat))] [] S1 (f1) r1 g := by
      intro kk
      induction kk with
      | zero =>
        intro n S1 f1 r1 hkk hn z hS hr hf hmo hb1
        exact absurd hkk (by omega)
      | succ kk ih =>
        intro n S1 f1 r1 hkk hn z hS hr hf hmo hb1
        refine sv_iload_n (i := 1) dX4_init_69 rfl rfl ?_
        refine sv_bipush dX4_init_70 (by decide) ?_
        have hk : (S1.2 i).1 = 4 := by rw [hS _ (by omega)]; exact hkV9
        have hr1 : r1 i 1 = some (i + 65) := by rw [hr _ (by omega) (by omega)]; exact hq1
        refine sv_icmp_ge (tgt := 94) dX4_init_72 (by decide) (by unfold sv_in; omega) (by decide) (fun h_72 => ?_) (fun h_72 => ?_)
        · have hn6 : n = 6 := by omega
          subst hn6
          refine sv_return dX4_init_94 rfl ?_
          have zz : S1.1 = i + 478 := by omega
          have mS : ∀ x, x < S9.1 → S1.2 x = S9.2 x := fun x h => hS x (by omega)
          have hz9 : S9.1 ≤ S1.1 := by omega
          refine ⟨rfl, zz, fun x h => by rw [hS x (by omega)]; exact hlow x h, ?_, hM9.mv hz9 mS (fun x x0 x1 => hr x (by omega) (by omega)), hR9.mv hz9 mS (hr _ (by omega) (by omega)) (hr _ (by omega) (by omega)), hC9.mv hz9 mS (hr _ (by omega) (by omega)), ?_, ?_, ?_, ?_, ?_, fun x h => ?_, rfl, hb1⟩
          · obtain ⟨a1, a2, a3, ⟨a4, a5, a6⟩, a7, a8, ⟨a9, b1, b2⟩, c1, c2, c3⟩ := hV9
            unfold sv_K4
            rw [hr i (by omega) (by omega), mS i a1, mS _ a5, mS _ b1, mS _ c2]
            exact ⟨by omega, a2, a3, ⟨a4, by omega, a6⟩, a7, a8, ⟨a9, by omega, b2⟩, c1, by omega, c3⟩
          · refine ⟨fun j j0 j6 => ?_, fun j j' a b a' b' hne => by unfold sv_mp; omega⟩
            obtain ⟨h1, h2⟩ := hmo j.toNat (by omega)
            rw [show ((j.toNat : Nat) : Int) = j by omega] at h1
            exact ⟨h1, h2, by unfold sv_mp; omega, fun x hx => by unfold sv_mp; omega, fun p p0 p1 => by unfold sv_mp sv_fd; omega⟩
          · rw [hf _ (by omega), hf _ (by omega), hf _ (by omega)]; exact hv9
          · rw [hf _ (by omega)]; exact hu9
          · rw [hf _ (by omega)]; exact hl9
          · rw [hf _ (by omega)]; exact ht9
          · exact ⟨by rw [hf x (by omega)]; exact (hlo9 x h).1, by rw [hr x (by omega) (by omega)]; exact (hlo9 x h).2⟩
        · refine sv_aload_n (i := 0) dX4_init_75 rfl rfl ?_
          refine sv_getR (kz := 1) flX4_16 dX4_init_76 rfl rfl (by omega) hk hr1 ?_
          refine sv_iload_n (i := 1) dX4_init_79 rfl rfl ?_
          refine sv_aO (a := (i + 94 + 64 * n)) sv_cb1 z ⟨List.mem_of_getElem? (i := 68) (by decide +kernel), List.mem_of_getElem? (i := 69) (by decide +kernel), List.mem_of_getElem? (i := 50) (by decide +kernel)⟩ dX4_init_80 hb1 ⟨by show 93 + 64 * n + 1 ≤ 477; omega, by show 1071 + 661 * n + 7 ≤ 5037; omega⟩ (fun S2 zS2 bS2 => ?_)
          refine sv_dup dX4_init_83 rfl ?_
          refine sv_callI (As := []) (rest := [sv_r (i + 94 + 64 * n), sv_i (n : Int), sv_r (i + 65)]) clX4_9 (c_X1_init (q := i + 94 + 64 * n) zS2.1 (by rw [zS2.2.1]) bS2) (by decide) ⟨by show 93 + 64 * n + 1 + 63 ≤ 477; omega, by show 1071 + 661 * n + 7 + 654 ≤ 5037; omega⟩ rfl (Nat.le_of_ble_eq_true rfl) dX4_init_84 (fun rv S3 f3 r3 g3 hq3 => ?_)
          obtain ⟨rfl, y1, y2, y3, y4, y5, rfl, y6⟩ := hq3
          obtain ⟨u1, u2, u3⟩ := zS2
          have eS : ∀ x, x < i + 94 + 64 * n → S3.2 x = S1.2 x := fun x h => by rw [y2 x (by omega), u3 x h]
          have hs9 : S3.2 (i + 65) = (9, 6) := by rw [eS _ (by omega), hS _ (by omega)]; exact hpa9
          have hk9 := y3.k
          refine sv_aast (t := 1) dX4_init_87 (by omega) (by decide) rfl hs9 (by omega) (by omega) hk9 ?_
          refine sv_iinc dX4_init_88 rfl (by decide) rfl ?_
          refine sv_goto (tgt := 69) dX4_init_91 (by decide) ?_
          have eR : ∀ x, x < i + 94 + 64 * n → x ≠ i + 65 → sv_ur r3 (i + 65) (n : Int) (some (i + 94 + 64 * n)) x = r1 x := fun x h1 h2 => by rw [sv_ur_ne h2]; exact (y4 x h1).2
          refine sv_castk (ih (n + 1) S3 f3 _ (by omega) (by omega) (by omega) (fun x h => by rw [eS x (by omega)]; exact hS x h) (fun x h h2 => by rw [eR x (by omega) h2]; exact hr x h h2) (fun x h => by rw [(y4 x (by omega)).1]; exact hf x h) (fun j hj => ?_) (y6.ur (by omega))) (by omega) (by show 1071 + 661 * (n + 1) = 1071 + 661 * n + 7 + 654; omega) rfl rfl rfl rfl rfl rfl
          by_cases e : j = n
          · subst e
            exact ⟨by simp [sv_ur], sv_K1.mv y3 (Nat.le_refl _) (fun _ _ => rfl) (fun x x0 x1 => sv_ur_ne (by omega))⟩
          · obtain ⟨h1, h2⟩ := hmo j (by omega)
            refine ⟨?_, h2.mv (by omega) (fun x h => eS x (by omega)) (fun x x0 x1 => eR x (by omega) (by omega))⟩
            show (if i + 65 = i + 65 ∧ (j : Int) = (n : Int) then _ else r3 (i + 65) (j : Int)) = _
            rw [if_neg (by omega), (y4 (i + 65) (by omega)).2]; exact h1
    exact sv_castk (lp 7 0 S9 f5 R9 (by omega) (by omega) (by omega) (fun _ _ => rfl) (fun _ _ _ => rfl) (fun _ _ => rfl) (fun j hj => by omega) hb9) rfl rfl rfl rfl rfl rfl rfl rfl
  refine sv_aload_n (i := 0) dX4_init_0 rfl rfl ?_
  refine sv_objinit (List.mem_of_getElem? (i := 65) (by decide +kernel)) sv_oiw (Nat.le_of_ble_eq_true rfl) (by decide) dX4_init_1 ?_
  refine sv_aload_n (i := 0) dX4_init_4 rfl rfl ?_
  refine sv_aO (a := (i + 1)) sv_cb1 hi ⟨List.mem_of_getElem? (i := 68) (by decide +kernel), List.mem_of_getElem? (i := 69) (by decide +kernel), List.mem_of_getElem? (i := 50) (by decide +kernel)⟩ dX4_init_5 hb ⟨by decide, by decide⟩ (fun S1 zS1 bS1 => ?_)
  refine sv_dup dX4_init_8 rfl ?_
  refine sv_callI (As := []) (rest := [sv_r (i + 1), sv_r i]) clX4_9 (c_X1_init (q := i + 1) zS1.1 (by rw [zS1.2.1]) bS1) (by decide) ⟨by decide, by decide⟩ rfl (Nat.le_of_ble_eq_true rfl) dX4_init_9 (fun rv S2 f2 r2 g2 hq2 => ?_)
  obtain ⟨rfl, y1, y2, y3, y4, y5, rfl, y6⟩ := hq2
  have hk0 := hk
  have hk : (S2.2 i).1 = 4 := by rw [y2 i (by omega), zS1.2.2 i (by omega)]; exact hk
  refine sv_putR (kz := 0) flX4_10 dX4_init_12 (Or.inr ⟨rfl, _, rfl, rfl⟩) rfl rfl (by omega) hk ?_
  refine sv_aload_n (i := 0) dX4_init_15 rfl rfl ?_
  refine sv_bipush dX4_init_16 (by decide) ?_
  refine sv_aA (a := (i + 65)) (t := 1) (by decide) (by omega) rfl (by decide) dX4_init_18 (y6.ur (by omega)) ⟨by decide, by decide⟩ (List.mem_of_getElem? (i := 68) (by decide +kernel)) (fun S3 zS3 bS3 => ?_)
  obtain ⟨z3, k3, e3⟩ := zS3
  have hk1 := hk
  have hk : (S3.2 i).1 = 4 := by rw [e3 i (by omega)]; exact hk
  refine sv_putR (kz := 1) flX4_16 dX4_init_21 (Or.inr ⟨rfl, _, rfl, rfl⟩) rfl rfl (by omega) hk ?_
  refine sv_aload_n (i := 0) dX4_init_24 rfl rfl ?_
  refine sv_iconst dX4_init_25 ?_
  refine sv_putI (kz := 2) flX4_20 dX4_init_26 (Or.inl rfl) rfl rfl (by omega) hk (by first | omega | exact hin _ _ | decide | (simp [sv_u, sv_row]; omega) | (simp [sv_u, sv_row]; exact hin _ _) | exact hin1 _ _ | (simp [sv_u, sv_row]; exact hin1 _ _)) ?_
  refine sv_aload_n (i := 0) dX4_init_29 rfl rfl ?_
  refine sv_aO (a := (i + 66)) sv_cb3 z3 ⟨List.mem_of_getElem? (i := 151) (by decide +kernel), List.mem_of_getElem? (i := 152) (by decide +kernel), List.mem_of_getElem? (i := 52) (by decide +kernel)⟩ dX4_init_30 ((bS3.ur (by omega)).u (by omega)) ⟨by decide, by decide⟩ (fun S4 zS4 bS4 => ?_)
  refine sv_dup dX4_init_33 rfl ?_
  refine sv_callI (As := []) (rest := [sv_r (i + 66), sv_r i]) clX4_26 (c_X3_init (i := i + 66) zS4.1 (by rw [zS4.2.1]) bS4) (by decide) ⟨by decide, by decide⟩ rfl (Nat.le_of_ble_eq_true rfl) dX4_init_34 (fun rv S5 f5 r5 g5 hq5 => ?_)
  obtain ⟨rfl, w1, w2, w3, w4, w5, rfl, w6⟩ := hq5
  have hk2 := hk
  have hk : (S5.2 i).1 = 4 := by rw [w2 i (by omega), zS4.2.2 i (by omega)]; exact hk
  refine sv_putR (kz := 3) flX4_27 dX4_init_37 (Or.inr ⟨rfl, _, rfl, rfl⟩) rfl rfl (by omega) hk ?_
  refine sv_aload_n (i := 0) dX4_init_40 rfl rfl ?_
  refine sv_aO (a := (i + 69)) sv_cb2 (by omega) ⟨List.mem_of_getElem? (i := 179) (by decide +kernel), List.mem_of_getElem? (i := 180) (by decide +kernel), List.mem_of_getElem? (i := 53) (by decide +kernel)⟩ dX4_init_41 (w6.ur (by omega)) ⟨by decide, by decide⟩ (fun S6 zS6 bS6 => ?_)
  refine sv_dup dX4_init_44 rfl ?_
  refine sv_callI (As := []) (rest := [sv_r (i + 69), sv_r i]) clX4_33 (c_X2_init (i := i + 69) zS6.1 (by rw [zS6.2.1]) bS6) (by decide) ⟨by decide, by decide⟩ rfl (Nat.le_of_ble_eq_true rfl) dX4_init_45 (fun rv S7 f7 r7 g7 hq7 => ?_)
  obtain ⟨rfl, v1, v2, v3, rfl, v5, rfl, v6⟩ := hq7
  have hk3 := hk
  have hk : (S7.2 i).1 = 4 := by rw [v2 i (by omega), zS6.2.2 i (by omega)]; exact hk
  refine sv_putR (kz := 4) flX4_34 dX4_init_48 (Or.inr ⟨rfl, _, rfl, rfl⟩) rfl rfl (by omega) hk ?_
  refine sv_aload_n (i := 0) dX4_init_51 rfl rfl ?_
  refine sv_bipush dX4_init_52 (by decide) ?_
  refine sv_aI (a := (i + 92)) (by omega) rfl (by decide) dX4_init_54 (v6.ur (by omega)) ⟨by decide, by decide⟩ sv_arI (fun S8 zS8 bS8 => ?_)
  obtain ⟨z8, k8, e8⟩ := zS8
  have hk4 := hk
  have hk : (S8.2 i).1 = 4 := by rw [e8 i (by omega)]; exact hk
  refine sv_putR (kz := 5) flX4_38 dX4_init_56 (Or.inr ⟨rfl, _, rfl, rfl⟩) rfl rfl (by omega) hk ?_
  refine sv_aload_n (i := 0) dX4_init_59 rfl rfl ?_
  refine sv_bipush dX4_init_60 (by decide) ?_
  refine sv_aI (a := (i + 93)) z8 rfl (by decide) dX4_init_62 (bS8.ur (by omega)) ⟨by decide, by decide⟩ sv_arI (fun S9 zS9 bS9 => ?_)
  obtain ⟨z9, k9, e9⟩ := zS9
  have hk5 := hk
  have hk : (S9.2 i).1 = 4 := by rw [e9 i (by omega)]; exact hk
  refine sv_putR (kz := 6) flX4_42 dX4_init_64 (Or.inr ⟨rfl, _, rfl, rfl⟩) rfl rfl (by omega) hk ?_
  refine sv_iconst dX4_init_67 ?_
  refine sv_istore_n (i := 1) dX4_init_68 rfl (by decide) rfl ?_
  obtain ⟨s41, s42, s43⟩ := zS4
  obtain ⟨s61, s62, s63⟩ := zS6
  obtain ⟨s11, s12, s13⟩ := zS1
  have c95 : ∀ x, x < i + 69 → S9.2 x = S5.2 x := fun x h => by rw [e9 x (by omega), e8 x (by omega), v2 x (by omega), s63 x (by omega)]
  have c93 : ∀ x, x < i + 66 → S9.2 x = S3.2 x := fun x h => by rw [c95 x (by omega), w2 x (by omega), s43 x (by omega)]
  have c92 : ∀ x, x < i + 65 → S9.2 x = S2.2 x := fun x h => by rw [c93 x (by omega), e3 x (by omega)]
  have hRi : ∀ x, x ≠ i → x < i + 69 → sv_ur (sv_ur (sv_ur r7 i 4 (some (i + 69))) i 5 (some (i + 92))) i 6 (some (i + 93)) x = r5 x := fun x h h2 => by rw [sv_ur_ne h, sv_ur_ne h, sv_ur_ne h, v5 x h2, sv_ur_ne h]
  have hR2 : ∀ x, x ≠ i → x < i + 66 → r5 x = r2 x := fun x h h2 => by rw [(w4 x (by omega)).2, sv_ur_ne h, sv_ur_ne h]
  have hF2 : ∀ x, x ≠ i → x < i + 66 → f7 x = f2 x := fun x h h2 => by rw [(w4 x (by omega)).1, sv_u_ne h]
  have h7i : r7 i = sv_ur r5 i 3 (some (i + 66)) i := v5 i (by omega)
  have h5i : r5 i = sv_ur (sv_ur r2 i 0 (some (i + 1))) i 1 (some (i + 65)) i := (w4 i (by omega)).2
  have r0 : sv_ur (sv_ur (sv_ur r7 i 4 (some (i + 69))) i 5 (some (i + 92))) i 6 (some (i + 93)) i 0 = some (i + 1) := by simp [sv_ur, h7i, h5i]
  have r1 : sv_ur (sv_ur (sv_ur r7 i 4 (some (i + 69))) i 5 (some (i + 92))) i 6 (some (i + 93)) i 1 = some (i + 65) := by simp [sv_ur, h7i, h5i]
  have r3 : sv_ur (sv_ur (sv_ur r7 i 4 (some (i + 69))) i 5 (some (i + 92))) i 6 (some (i + 93)) i 3 = some (i + 66) := by simp [sv_ur, h7i]
  have hpa : S9.2 (i + 65) = (9, 6) := by rw [c93 _ (by omega)]; exact k3
  have hfi : S9.2 (i + 92) = (6, 12) := by rw [e9 _ (by omega)]; exact k8
  refine sv_castk (big S9 f7 _ (by omega) (fun x h => by rw [c92 x (by omega), y2 x (by omega), s13 x h]) hk hpa r1 ⟨by omega, hk, r0, ⟨r1, by omega, hpa⟩, r3, by simp [sv_ur], ⟨by simp [sv_ur], by omega, hfi⟩, by simp [sv_ur], by omega, k9⟩ ?_ ?_ ?_ ?_ ?_ w5 ?_ (fun x h => ⟨?_, ?_⟩) (bS9.ur (by omega))) rfl rfl rfl rfl rfl rfl rfl rfl
  · exact sv_K1.mv y3 (by omega) (fun x h => c92 x (by omega)) (fun x x0 x1 => by rw [hRi x (by omega) (by omega), hR2 x (by omega) (by omega)])
  · exact sv_K2.mv v3 (by omega) (fun x h => by rw [e9 x (by omega), e8 x (by omega)]) (by rw [sv_ur_ne (by omega), sv_ur_ne (by omega), sv_ur_ne (by omega)]) (by rw [sv_ur_ne (by omega), sv_ur_ne (by omega), sv_ur_ne (by omega)])
  · exact sv_K3.mv w3 (by omega) (fun x h => c95 x (by omega)) (hRi _ (by omega) (by omega))
  · rw [hF2 _ (by omega) (by omega), hF2 (i + 2) (by omega) (by omega), hF2 (i + 3) (by omega) (by omega)]; exact y5
  · rw [(w4 i (by omega)).1]; simp [sv_u]
  · rw [(w4 (i + 67) (by omega)).1, sv_u_ne (by omega)]; exact (y6 (i + 67) (by omega)).1
  · rw [hF2 x (by omega) (by omega), (y4 x (by omega)).1]
  · rw [hRi x (by omega) (by omega), hR2 x (by omega) (by omega), (y4 x (by omega)).2]
