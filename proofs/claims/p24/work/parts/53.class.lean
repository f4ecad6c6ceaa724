/-- a Kept at place k -/
def sv_K0 (S : sv_S) (r : sv_R) (k : Nat) : Prop := k + 2 < S.1 ∧ (S.2 k).1 = 0 ∧ (r k 5 = some (k + 1) ∧ S.2 (k + 1) = (6, 12)) ∧ (r k 6 = some (k + 2) ∧ S.2 (k + 2) = (6, 12))
/-- a Moment at place q, whose Kepts stand at kp 0 .. kp 19 -/
def sv_K1 (S : sv_S) (r : sv_R) (q : Nat) (kp : Int → Nat) : Prop := q + 3 < S.1 ∧ (S.2 q).1 = 1 ∧ (r q 4 = some (q + 1) ∧ S.2 (q + 1) = (6, 12)) ∧ (r q 5 = some (q + 2) ∧ S.2 (q + 2) = (6, 2)) ∧ (r q 6 = some (q + 3) ∧ S.2 (q + 3) = (8, 20)) ∧ (∀ p, 0 ≤ p → p < 20 → r (q + 3) p = some (kp p) ∧ (q + 4 ≤ kp p ∧ kp p + 2 < q + 64) ∧ sv_K0 S r (kp p)) ∧ ∀ p p', 0 ≤ p → p < 20 → 0 ≤ p' → p' < 20 → p ≠ p' → kp p + 2 < kp p' ∨ kp p' + 2 < kp p
/-- what a Kept holds: the row s of m -/
def sv_V0 (f : sv_F) (k : Nat) (m : Int → Int) (s : Int) : Prop := f k 0 = m (29 * s) ∧ f k 1 = m (29 * s + 1) ∧ f k 2 = m (29 * s + 2) ∧ f k 3 = m (29 * s + 3) ∧ f k 4 = m (29 * s + 4) ∧ ∀ j, 0 ≤ j → j < m (29 * s + 4) → f (k + 1) j = m (29 * s + (5 + j)) ∧ f (k + 2) j = m (29 * s + (17 + j))
/-- what a Moment holds: m -/
def sv_V1 (f : sv_F) (q : Nat) (kp : Int → Nat) (m : Int → Int) : Prop := f q 0 = m 582 ∧ f q 1 = m 595 ∧ f q 2 = m 581 ∧ f q 3 = m 580 ∧ (∀ j, 0 ≤ j → j < 6 + 2 * m 582 → f (q + 1) j = m (583 + j)) ∧ f (q + 2) 0 = m 596 ∧ f (q + 2) 1 = m 597 ∧ ∀ s, 0 ≤ s → s < m 580 → sv_V0 f (kp s) m s
section SVCLASS
variable {S : sv_S} {r : sv_R} {f : sv_F} {u q : Nat} {kp : Int → Nat} {m : Int → Int} {s : Int}
theorem sv_K0.lt (h : sv_K0 S r u) : u < S.1 := by have := h.1; omega
theorem sv_K0.k (h : sv_K0 S r u) : (S.2 u).1 = 0 := h.2.1
theorem sv_K0.l1 (h : sv_K0 S r u) : u + 1 < S.1 := by have := h.1; omega
theorem sv_K0.l2 (h : sv_K0 S r u) : u + 2 < S.1 := h.1
theorem sv_K0.r1 (h : sv_K0 S r u) : r u 5 = some (u + 1) := h.2.2.1.1
theorem sv_K0.r2 (h : sv_K0 S r u) : r u 6 = some (u + 2) := h.2.2.2.1
theorem sv_K0.s1 (h : sv_K0 S r u) : S.2 (u + 1) = (6, 12) := h.2.2.1.2
theorem sv_K0.s2 (h : sv_K0 S r u) : S.2 (u + 2) = (6, 12) := h.2.2.2.2
theorem sv_K1.lt (h : sv_K1 S r q kp) : q < S.1 := by have := h.1; omega
theorem sv_K1.k (h : sv_K1 S r q kp) : (S.2 q).1 = 1 := h.2.1
theorem sv_K1.l1 (h : sv_K1 S r q kp) : q + 1 < S.1 := by have := h.1; omega
theorem sv_K1.l2 (h : sv_K1 S r q kp) : q + 2 < S.1 := by have := h.1; omega
theorem sv_K1.l3 (h : sv_K1 S r q kp) : q + 3 < S.1 := h.1
theorem sv_K1.r1 (h : sv_K1 S r q kp) : r q 4 = some (q + 1) := h.2.2.1.1
theorem sv_K1.r2 (h : sv_K1 S r q kp) : r q 5 = some (q + 2) := h.2.2.2.1.1
theorem sv_K1.r3 (h : sv_K1 S r q kp) : r q 6 = some (q + 3) := h.2.2.2.2.1.1
theorem sv_K1.s1 (h : sv_K1 S r q kp) : S.2 (q + 1) = (6, 12) := h.2.2.1.2
theorem sv_K1.s2 (h : sv_K1 S r q kp) : S.2 (q + 2) = (6, 2) := h.2.2.2.1.2
theorem sv_K1.s3 (h : sv_K1 S r q kp) : S.2 (q + 3) = (8, 20) := h.2.2.2.2.1.2
theorem sv_K1.e (h : sv_K1 S r q kp) {p : Int} (h0 : 0 ≤ p) (h1 : p < 20) : r (q + 3) p = some (kp p) := (h.2.2.2.2.2.1 p h0 h1).1
theorem sv_K1.b (h : sv_K1 S r q kp) {p : Int} (h0 : 0 ≤ p) (h1 : p < 20) : q + 4 ≤ kp p ∧ kp p + 2 < q + 64 := (h.2.2.2.2.2.1 p h0 h1).2.1
theorem sv_K1.o (h : sv_K1 S r q kp) {p : Int} (h0 : 0 ≤ p) (h1 : p < 20) : sv_K0 S r (kp p) := (h.2.2.2.2.2.1 p h0 h1).2.2
theorem sv_K1.d (h : sv_K1 S r q kp) {p p' : Int} (h0 : 0 ≤ p) (h1 : p < 20) (h2 : 0 ≤ p') (h3 : p' < 20) (hn : p ≠ p') : kp p + 2 < kp p' ∨ kp p' + 2 < kp p := h.2.2.2.2.2.2 p p' h0 h1 h2 h3 hn
theorem sv_V1.form (h : sv_V1 f q kp m) : f q 0 = m 582 := h.1
theorem sv_V1.orig (h : sv_V1 f q kp m) : f q 1 = m 595 := h.2.1
theorem sv_V1.came (h : sv_V1 f q kp m) : f q 2 = m 581 := h.2.2.1
theorem sv_V1.size (h : sv_V1 f q kp m) : f q 3 = m 580 := h.2.2.2.1
theorem sv_V1.val (h : sv_V1 f q kp m) {j : Int} (h0 : 0 ≤ j) (h1 : j < 6 + 2 * m 582) : f (q + 1) j = m (583 + j) := h.2.2.2.2.1 j h0 h1
theorem sv_V1.lim (h : sv_V1 f q kp m) : f (q + 2) 0 = m 596 := h.2.2.2.2.2.1
theorem sv_V1.ris (h : sv_V1 f q kp m) : f (q + 2) 1 = m 597 := h.2.2.2.2.2.2.1
theorem sv_V1.o (h : sv_V1 f q kp m) (h0 : 0 ≤ s) (h1 : s < m 580) : sv_V0 f (kp s) m s := h.2.2.2.2.2.2.2 s h0 h1
theorem sv_V0.num (h : sv_V0 f u m s) : f u 0 = m (29 * s) := h.1
theorem sv_V0.form (h : sv_V0 f u m s) : f u 1 = m (29 * s + 1) := h.2.1
theorem sv_V0.sum (h : sv_V0 f u m s) : f u 2 = m (29 * s + 2) := h.2.2.1
theorem sv_V0.base (h : sv_V0 f u m s) : f u 3 = m (29 * s + 3) := h.2.2.2.1
theorem sv_V0.size (h : sv_V0 f u m s) : f u 4 = m (29 * s + 4) := h.2.2.2.2.1
theorem sv_V0.idx (h : sv_V0 f u m s) {j : Int} (h0 : 0 ≤ j) (h1 : j < m (29 * s + 4)) : f (u + 1) j = m (29 * s + (5 + j)) := (h.2.2.2.2.2 j h0 h1).1
theorem sv_V0.val (h : sv_V0 f u m s) {j : Int} (h0 : 0 ≤ j) (h1 : j < m (29 * s + 4)) : f (u + 2) j = m (29 * s + (17 + j)) := (h.2.2.2.2.2 j h0 h1).2
end SVCLASS
