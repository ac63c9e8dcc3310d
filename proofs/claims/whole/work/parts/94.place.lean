/-! the place of a fault lies on the tape -/
theorem bd_inr {a : PS} {f : Nat → (Nat → Int) → PS} {e : Int × Nat} (h : bd a f = .inr e) : a = .inr e ∨ ∃ p r, a = .inl (p, r) ∧ f p r = .inr e := by
  cases a with
  | inl q => exact Or.inr ⟨q.1, q.2, rfl, h⟩
  | inr d => exact Or.inl h
section PLACE
variable {T : Nat → Int} {L p : Nat} {r : Nat → Int} {e : Int × Nat}
theorem P_sign_q (hp : p ≤ L) (h : P_sign T L p r = .inr e) : e.2 ≤ L := by
  unfold P_sign at h
  split at h
  · cases h
  · cases h; exact (tSt_b hp).2
theorem P_word_q (hp : p ≤ L) {w : Int} (h : P_word T L w p r = .inr e) : e.2 ≤ L := by
  unfold P_word at h
  split at h
  · cases h
  · cases h; exact (tSt_b hp).2
theorem P_num_q (hp : p ≤ L) {lo hi : Int} {i : Nat} (h : P_num T L lo hi i p r = .inr e) : e.2 ≤ L := by
  unfold P_num at h
  split at h
  · split at h
    · cases h
    · cases h; exact (tSt_b hp).2
  · cases h; exact (tSt_b hp).2
theorem P_pick_q (hp : p ≤ L) {f : Int → Int} {i : Nat} (h : P_pick T L f i p r = .inr e) : e.2 ≤ L := by
  unfold P_pick at h
  split at h
  · cases h; exact (tSt_b hp).2
  · cases h
theorem P_sign_p (hp : p ≤ L) {p' : Nat} {r' : Nat → Int} (h : P_sign T L p r = .inl (p', r')) : p' ≤ L := by
  rw [(P_sign_ok h).2.1]; exact (tNd_b hp).2
theorem P_word_p (hp : p ≤ L) {w : Int} {p' : Nat} {r' : Nat → Int} (h : P_word T L w p r = .inl (p', r')) : p' ≤ L := by
  rw [(P_word_ok h).2.1]; exact (tNd_b hp).2
theorem P_num_p (hp : p ≤ L) {lo hi : Int} {i p' : Nat} {r' : Nat → Int} (h : P_num T L lo hi i p r = .inl (p', r')) : p' ≤ L := by
  rw [(P_num_ok h).2.2.1]; exact (tNd_b hp).2
theorem P_pick_p (hp : p ≤ L) {f : Int → Int} {i p' : Nat} {r' : Nat → Int} (h : P_pick T L f i p r = .inl (p', r')) : p' ≤ L := by
  rw [(P_pick_ok h).2.1]; exact (tNd_b hp).2
theorem P_nums_q {lo hi : Nat → Int} {b : Nat} : ∀ (m k p : Nat) (r : Nat → Int), p ≤ L → P_nums T L lo hi b m k p r = .inr e → e.2 ≤ L
  | 0, _, _, _, _, h => by cases h
  | m + 1, k, p, r, hp, h => by
    rcases bd_inr h with g | ⟨p1, r1, g1, g2⟩
    · exact P_num_q hp g
    · exact P_nums_q m (k + 1) p1 r1 (P_num_p hp g1) g2
theorem P_puller_q (hp : p ≤ L) {s c : Nat} (h : P_puller T L s c p r = .inr e) : e.2 ≤ L := by
  unfold P_puller at h
  split at h
  · cases h; exact (tSt_b hp).2
  · have hp0 := (tNd_b (T := T) hp).2
    rcases bd_inr h with g | ⟨p1, r1, g1, h⟩
    · exact P_nums_q _ _ _ _ hp0 g
    · have hp1 := (P_nums_ok _ _ _ _ g1 hp0).1
      rcases bd_inr h with g | ⟨p2, r2, g2, h⟩
      · exact P_sign_q hp1 g
      · cases h
theorem P_puller_p (hp : p ≤ L) {s c p' : Nat} {r' : Nat → Int} (h : P_puller T L s c p r = .inl (p', r')) : p' ≤ L := by
  unfold P_puller at h
  split at h
  · cases h
  · obtain ⟨p1, r1, g1, h⟩ := bd_inl h
    obtain ⟨p2, r2, g2, h⟩ := bd_inl h
    cases h
    exact P_sign_p (P_nums_ok _ _ _ _ g1 (tNd_b hp).2).1 g2
theorem P_rule_q (hp : p ≤ L) {s c : Nat} (h : P_rule T L s c p r = .inr e) : e.2 ≤ L := by
  unfold P_rule at h
  split at h
  · cases h; exact (tSt_b hp).2
  · have hp0 := (tNd_b (T := T) hp).2
    rcases bd_inr h with g | ⟨p1, r1, g1, h⟩
    · exact P_pick_q hp0 g
    · have hp1 := P_pick_p hp0 g1
      rcases bd_inr h with g | ⟨p2, r2, g2, h⟩
      · exact P_pick_q hp1 g
      · have hp2 := P_pick_p hp1 g2
        rcases bd_inr h with g | ⟨p3, r3, g3, h⟩
        · exact P_num_q hp2 g
        · have hp3 := P_num_p hp2 g3
          rcases bd_inr h with g | ⟨p4, r4, g4, h⟩
          · exact P_pick_q hp3 g
          · have hp4 := P_pick_p hp3 g4
            rcases bd_inr h with g | ⟨p5, r5, g5, h⟩
            · exact P_sign_q hp4 g
            · cases h
theorem P_rule_p (hp : p ≤ L) {s c p' : Nat} {r' : Nat → Int} (h : P_rule T L s c p r = .inl (p', r')) : p' ≤ L := by
  unfold P_rule at h
  split at h
  · cases h
  · obtain ⟨p1, r1, g1, h⟩ := bd_inl h
    obtain ⟨p2, r2, g2, h⟩ := bd_inl h
    obtain ⟨p3, r3, g3, h⟩ := bd_inl h
    obtain ⟨p4, r4, g4, h⟩ := bd_inl h
    obtain ⟨p5, r5, g5, h⟩ := bd_inl h
    cases h
    exact P_sign_p (P_pick_p (P_num_p (P_pick_p (P_pick_p (tNd_b hp).2 g1) g2) g3) g4) g5
theorem P_pullers_q {s : Nat} : ∀ (n c p : Nat) (r : Nat → Int), p ≤ L → P_pullers T L s n c p r = .inr e → e.2 ≤ L
  | 0, _, _, _, _, h => by cases h; exact Nat.zero_le _
  | n + 1, c, p, r, hp, h => by
    have h : (if wdV T L p = 123649632527730 then bd (P_puller T L s c p r) (fun p r => P_pullers T L s n (c + 1) p r) else .inl (p, r)) = (.inr e : PS) := h
    split at h
    · rcases bd_inr h with g | ⟨p1, r1, g1, g2⟩
      · exact P_puller_q hp g
      · exact P_pullers_q n (c + 1) p1 r1 (P_puller_p hp g1) g2
    · cases h
theorem P_pullers_p {s : Nat} : ∀ (n c p : Nat) (r : Nat → Int) {p' : Nat} {r' : Nat → Int}, p ≤ L → P_pullers T L s n c p r = .inl (p', r') → p' ≤ L
  | 0, _, _, _, _, _, _, h => by cases h
  | n + 1, c, p, r, p', r', hp, h => by
    have h : (if wdV T L p = 123649632527730 then bd (P_puller T L s c p r) (fun p r => P_pullers T L s n (c + 1) p r) else .inl (p, r)) = (.inl (p', r') : PS) := h
    split at h
    · obtain ⟨p1, r1, g1, g2⟩ := bd_inl h
      exact P_pullers_p n (c + 1) p1 r1 (P_puller_p hp g1) g2
    · cases h; exact hp
theorem P_rules_q {s : Nat} : ∀ (n c p : Nat) (r : Nat → Int), p ≤ L → P_rules T L s n c p r = .inr e → e.2 ≤ L
  | 0, _, _, _, _, h => by cases h; exact Nat.zero_le _
  | n + 1, c, p, r, hp, h => by
    have h : (if wdV T L p = 2003330414 then bd (P_rule T L s c p r) (fun p r => P_rules T L s n (c + 1) p r) else .inl (p, r)) = (.inr e : PS) := h
    split at h
    · rcases bd_inr h with g | ⟨p1, r1, g1, g2⟩
      · exact P_rule_q hp g
      · exact P_rules_q n (c + 1) p1 r1 (P_rule_p hp g1) g2
    · cases h
theorem P_rules_p {s : Nat} : ∀ (n c p : Nat) (r : Nat → Int) {p' : Nat} {r' : Nat → Int}, p ≤ L → P_rules T L s n c p r = .inl (p', r') → p' ≤ L
  | 0, _, _, _, _, _, _, h => by cases h
  | n + 1, c, p, r, p', r', hp, h => by
    have h : (if wdV T L p = 2003330414 then bd (P_rule T L s c p r) (fun p r => P_rules T L s n (c + 1) p r) else .inl (p, r)) = (.inl (p', r') : PS) := h
    split at h
    · obtain ⟨p1, r1, g1, g2⟩ := bd_inl h
      exact P_rules_p n (c + 1) p1 r1 (P_rule_p hp g1) g2
    · cases h; exact hp
theorem P_head_q (hp : p ≤ L) (h : P_head T L p r = .inr e) : e.2 ≤ L := by
  unfold P_head at h
  rcases bd_inr h with g | ⟨p1, r1, g1, h⟩
  · exact P_word_q hp g
  · have hp1 := P_word_p hp g1
    rcases bd_inr h with g | ⟨p2, r2, g2, h⟩
    · exact P_sign_q hp1 g
    · have hp2 := P_sign_p hp1 g2
      split at h
      · cases h
      · cases h; exact (tSt_b hp2).2
theorem P_side_q (hp : p ≤ L) {s : Nat} (h : P_side T L s p r = .inr e) : e.2 ≤ L := by
  unfold P_side at h
  rcases bd_inr h with g | ⟨p1, r1, g1, h⟩
  · exact P_head_q hp g
  · have hp1 := (P_head_ok g1 hp).1
    rcases bd_inr h with g | ⟨p2, r2, g2, h⟩
    · exact P_pullers_q _ _ _ _ hp1 g
    · exact P_rules_q _ _ _ _ (P_pullers_p _ _ _ _ hp1 g2) h
theorem P_side_p (hp : p ≤ L) {s p' : Nat} {r' : Nat → Int} (h : P_side T L s p r = .inl (p', r')) : p' ≤ L := by
  unfold P_side at h
  obtain ⟨p1, r1, g1, h⟩ := bd_inl h
  obtain ⟨p2, r2, g2, h⟩ := bd_inl h
  exact P_rules_p _ _ _ _ (P_pullers_p _ _ _ _ (P_head_ok g1 hp).1 g2) h
theorem P_ground_q (hp : p ≤ L) (h : P_ground T L p r = .inr e) : e.2 ≤ L := by
  unfold P_ground at h
  split at h
  · have hp0 := (tNd_b (T := T) hp).2
    rcases bd_inr h with g | ⟨p1, r1, g1, h⟩
    · exact P_nums_q _ _ _ _ hp0 g
    · exact P_sign_q (P_nums_ok _ _ _ _ g1 hp0).1 h
  · cases h
theorem P_ground_p (hp : p ≤ L) {p' : Nat} {r' : Nat → Int} (h : P_ground T L p r = .inl (p', r')) : p' ≤ L := by
  unfold P_ground at h
  split at h
  · obtain ⟨p1, r1, g1, h⟩ := bd_inl h
    exact P_sign_p (P_nums_ok _ _ _ _ g1 (tNd_b hp).2).1 h
  · cases h; exact hp
theorem P_text_q (hp : p ≤ L) (h : P_text T L p r = .inr e) : e.2 ≤ L := by
  unfold P_text at h
  rcases bd_inr h with g | ⟨p1, r1, g1, h⟩
  · exact P_side_q hp g
  · have hp1 := P_side_p hp g1
    rcases bd_inr h with g | ⟨p2, r2, g2, h⟩
    · exact P_side_q hp1 g
    · have hp2 := P_side_p hp1 g2
      rcases bd_inr h with g | ⟨p3, r3, g3, h⟩
      · exact P_ground_q hp2 g
      · have hp3 := P_ground_p hp2 g3
        unfold P_end at h
        split at h
        · cases h
        · cases h; exact (tSt_b hp3).2
end PLACE
