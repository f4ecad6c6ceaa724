/-- a StateVault at place V -/
def sv_K4 (S : sv_S) (r : sv_R) (V q d fi se pa sc : Nat) : Prop := V < S.1 ∧ (S.2 V).1 = 4 ∧ r V 0 = some q ∧ (r V 1 = some pa ∧ pa < S.1 ∧ S.2 pa = (9, 6)) ∧ r V 3 = some sc ∧ r V 4 = some d ∧ (r V 5 = some fi ∧ fi < S.1 ∧ S.2 fi = (6, 12)) ∧ (r V 6 = some se ∧ se < S.1 ∧ S.2 se = (6, 12))
section SVVAULT
variable {S : sv_S} {r : sv_R} {V q d fi se pa sc : Nat}
theorem sv_K4.lt (h : sv_K4 S r V q d fi se pa sc) : V < S.1 := h.1
theorem sv_K4.k (h : sv_K4 S r V q d fi se pa sc) : (S.2 V).1 = 4 := h.2.1
theorem sv_K4.r0 (h : sv_K4 S r V q d fi se pa sc) : r V 0 = some q := h.2.2.1
theorem sv_K4.r1 (h : sv_K4 S r V q d fi se pa sc) : r V 1 = some pa := h.2.2.2.1.1
theorem sv_K4.l1 (h : sv_K4 S r V q d fi se pa sc) : pa < S.1 := h.2.2.2.1.2.1
theorem sv_K4.s1 (h : sv_K4 S r V q d fi se pa sc) : S.2 pa = (9, 6) := h.2.2.2.1.2.2
theorem sv_K4.r3 (h : sv_K4 S r V q d fi se pa sc) : r V 3 = some sc := h.2.2.2.2.1
theorem sv_K4.r4 (h : sv_K4 S r V q d fi se pa sc) : r V 4 = some d := h.2.2.2.2.2.1
theorem sv_K4.r5 (h : sv_K4 S r V q d fi se pa sc) : r V 5 = some fi := h.2.2.2.2.2.2.1.1
theorem sv_K4.l5 (h : sv_K4 S r V q d fi se pa sc) : fi < S.1 := h.2.2.2.2.2.2.1.2.1
theorem sv_K4.s5 (h : sv_K4 S r V q d fi se pa sc) : S.2 fi = (6, 12) := h.2.2.2.2.2.2.1.2.2
theorem sv_K4.r6 (h : sv_K4 S r V q d fi se pa sc) : r V 6 = some se := h.2.2.2.2.2.2.2.1
theorem sv_K4.l6 (h : sv_K4 S r V q d fi se pa sc) : se < S.1 := h.2.2.2.2.2.2.2.2.1
theorem sv_K4.s6 (h : sv_K4 S r V q d fi se pa sc) : S.2 se = (6, 12) := h.2.2.2.2.2.2.2.2.2
end SVVAULT
