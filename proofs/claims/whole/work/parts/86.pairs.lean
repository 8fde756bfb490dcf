/-! A call of the class and the same call of the reference, side by side. -/
def PP (S T : mm_P) (as : List Value) (x : mm_S) : Prop := ∃ (a : Int32) (x' x'' : mm_S), R x'' x'' ∧ (∀ K : mm_K, K (some (.int a)) x' → mm_LS S (.ref 0 :: as) x K) ∧ (∀ K : mm_K, K (some (.int a)) x'' → T (.ref 11 :: as) x' K)
theorem pp_make (v0 : Int32) (v1 : Int32) (v2 : Int32) (v3 : Int32) {x : mm_S} (h : R x x) : PP S_make S_m_make [.int v0, .int v1, .int v2, .int v3] x := by
  have hr : R x (mm_mrg (e_make v0 v1 v2 v3 x).2 x) := R_mrg h
  obtain ⟨q0, q1, q2⟩ := q_make (v0 := v0) (v1 := v1) (v2 := v2) (v3 := v3) hr
  exact ⟨(e_make v0 v1 v2 v3 x).1, mm_mrg (e_make v0 v1 v2 v3 x).2 x, (e_m_make v0 v1 v2 v3 (mm_mrg (e_make v0 v1 v2 v3 x).2 x)).2, R_pair q2 (fr_make v0 v1 v2 v3 _), fun K hk => i_make hk, fun K hk => i_m_make (by rw [← q1]; exact hk)⟩
theorem pp_pack (v0 : Int32) {x : mm_S} (h : R x x) : PP S_pack S_m_pack [.int v0] x := by
  have hr : R x (mm_mrg (e_pack v0 x).2 x) := R_mrg h
  obtain ⟨q0, q1, q2⟩ := q_pack (v0 := v0) hr
  exact ⟨(e_pack v0 x).1, mm_mrg (e_pack v0 x).2 x, (e_m_pack v0 (mm_mrg (e_pack v0 x).2 x)).2, R_pair q2 (fr_pack v0 _), fun K hk => i_pack hk, fun K hk => i_m_pack q0 (by rw [← q1]; exact hk)⟩
theorem pp_alter (v0 : Int32) (v1 : Int32) {x : mm_S} (h : R x x) : PP S_alter S_m_alter [.int v0, .int v1] x := by
  have hr : R x (mm_mrg (e_alter v0 v1 x).2 x) := R_mrg h
  obtain ⟨q0, q1, q2⟩ := q_alter (v0 := v0) (v1 := v1) hr
  exact ⟨(e_alter v0 v1 x).1, mm_mrg (e_alter v0 v1 x).2 x, (e_m_alter v0 v1 (mm_mrg (e_alter v0 v1 x).2 x)).2, R_pair q2 (fr_alter v0 v1 _), fun K hk => i_alter hk, fun K hk => i_m_alter q0 (by rw [← q1]; exact hk)⟩
theorem pp_offer {x : mm_S} (h : R x x) : PP S_offer S_m_offer [] x := by
  have hr : R x (mm_mrg (e_offer x).2 x) := R_mrg h
  obtain ⟨q0, q1, q2⟩ := q_offer hr
  exact ⟨(e_offer x).1, mm_mrg (e_offer x).2 x, (e_m_offer (mm_mrg (e_offer x).2 x)).2, R_pair q2 (fr_offer _), fun K hk => i_offer hk, fun K hk => i_m_offer q0 (by rw [← q1]; exact hk)⟩
theorem pp_block {x : mm_S} (h : R x x) : PP S_block S_m_block [] x := by
  have hr : R x (mm_mrg (e_block x).2 x) := R_mrg h
  obtain ⟨q0, q1, q2⟩ := q_block hr
  exact ⟨(e_block x).1, mm_mrg (e_block x).2 x, (e_m_block (mm_mrg (e_block x).2 x)).2, R_pair q2 (fr_block _), fun K hk => i_block hk, fun K hk => i_m_block q0 (by rw [← q1]; exact hk)⟩
theorem pp_finish {x : mm_S} (h : R x x) : PP S_finish S_m_finish [] x := by
  have hr : R x (mm_mrg (e_finish x).2 x) := R_mrg h
  obtain ⟨q0, q1, q2⟩ := q_finish hr
  exact ⟨(e_finish x).1, mm_mrg (e_finish x).2 x, (e_m_finish (mm_mrg (e_finish x).2 x)).2, R_pair q2 (fr_finish _), fun K hk => i_finish (LG_J h.2.2.2.2.2) hk, fun K hk => i_m_finish q0 (by rw [← q1]; exact hk)⟩
theorem pp_boot {x : mm_S} (h : R x x) : PP S_boot S_m_boot [] x := by
  have hr : R x (mm_mrg (e_boot x).2 x) := R_mrg h
  obtain ⟨q0, q1, q2⟩ := q_boot hr
  exact ⟨(e_boot x).1, mm_mrg (e_boot x).2 x, (e_m_boot (mm_mrg (e_boot x).2 x)).2, R_pair q2 (fr_boot _), fun K hk => i_boot (LG_J h.2.2.2.2.2) hk, fun K hk => i_m_boot q0 (by rw [← q1]; exact hk)⟩
theorem pp_confirm {x : mm_S} (h : R x x) : PP S_confirm S_m_confirm [] x := by
  have hr : R x (mm_mrg (e_confirm x).2 x) := R_mrg h
  obtain ⟨q0, q1, q2⟩ := q_confirm hr
  exact ⟨(e_confirm x).1, mm_mrg (e_confirm x).2 x, (e_m_confirm (mm_mrg (e_confirm x).2 x)).2, R_pair q2 (fr_confirm _), fun K hk => i_confirm (LG_J h.2.2.2.2.2) hk, fun K hk => i_m_confirm q0 (by rw [← q1]; exact hk)⟩
theorem pp_tick (v0 : Int32) {x : mm_S} (h : R x x) : PP S_tick S_m_tick [.int v0] x := by
  have hr : R x (mm_mrg (e_tick v0 x).2 x) := R_mrg h
  obtain ⟨q0, q1, q2⟩ := q_tick (v0 := v0) hr
  exact ⟨(e_tick v0 x).1, mm_mrg (e_tick v0 x).2 x, (e_m_tick v0 (mm_mrg (e_tick v0 x).2 x)).2, R_pair q2 (fr_tick v0 _), fun K hk => i_tick (LG_J h.2.2.2.2.2) hk, fun K hk => i_m_tick q0 (by rw [← q1]; exact hk)⟩
theorem pp_revoke (v0 : Int32) {x : mm_S} (h : R x x) : PP S_revoke S_m_revoke [.int v0] x := by
  have hr : R x (mm_mrg (e_revoke v0 x).2 x) := R_mrg h
  obtain ⟨q0, q1, q2⟩ := q_revoke (v0 := v0) hr
  exact ⟨(e_revoke v0 x).1, mm_mrg (e_revoke v0 x).2 x, (e_m_revoke v0 (mm_mrg (e_revoke v0 x).2 x)).2, R_pair q2 (fr_revoke v0 _), fun K hk => i_revoke (LG_J h.2.2.2.2.2) hk, fun K hk => i_m_revoke q0 (by rw [← q1]; exact hk)⟩
theorem pp_cut (v0 : Int32) (v1 : Int32) {x : mm_S} (h : R x x) : PP S_cut S_m_cut [.int v0, .int v1] x := by
  have hr : R x (mm_mrg (e_cut v0 v1 x).2 x) := R_mrg h
  obtain ⟨q0, q1, q2⟩ := q_cut (v0 := v0) (v1 := v1) hr
  exact ⟨(e_cut v0 v1 x).1, mm_mrg (e_cut v0 v1 x).2 x, (e_m_cut v0 v1 (mm_mrg (e_cut v0 v1 x).2 x)).2, R_pair q2 (fr_cut v0 v1 _), fun K hk => i_cut hk, fun K hk => i_m_cut (by rw [← q1]; exact hk)⟩
theorem pp_start {x : mm_S} (h : R x x) : PP S_start S_m_start [] x := by
  have hr : R x (mm_mrg (e_start x).2 x) := R_mrg h
  obtain ⟨q0, q1, q2⟩ := q_start hr
  exact ⟨(e_start x).1, mm_mrg (e_start x).2 x, (e_m_start (mm_mrg (e_start x).2 x)).2, R_pair q2 (fr_start _), fun K hk => i_start hk, fun K hk => i_m_start (by rw [← q1]; exact hk)⟩
theorem pp_rot (v0 : Int32) (v1 : Int32) (v2 : Int32) {x : mm_S} (h : R x x) : PP S_rot S_m_rot [.int v0, .int v1, .int v2] x := by
  have hr : R x (mm_mrg (e_rot v0 v1 v2 x).2 x) := R_mrg h
  obtain ⟨q0, q1, q2⟩ := q_rot (v0 := v0) (v1 := v1) (v2 := v2) hr
  exact ⟨(e_rot v0 v1 v2 x).1, mm_mrg (e_rot v0 v1 v2 x).2 x, (e_m_rot v0 v1 v2 (mm_mrg (e_rot v0 v1 v2 x).2 x)).2, R_pair q2 (fr_rot v0 v1 v2 _), fun K hk => i_rot hk, fun K hk => i_m_rot q0 (by rw [← q1]; exact hk)⟩
theorem pp_octet (v0 : Int32) (v1 : Int32) {x : mm_S} (h : R x x) : PP S_octet S_m_octet [.int v0, .int v1] x := by
  have hr : R x (mm_mrg x x) := R_mrg h
  obtain ⟨q0, q1⟩ := q_octet (v0 := v0) (v1 := v1) hr
  exact ⟨e_octet v0 v1 x, mm_mrg x x, mm_mrg x x, R_pair0 hr, fun K hk => i_octet hk, fun K hk => i_m_octet q0 (by rw [← q1]; exact hk)⟩
theorem pp_running {x : mm_S} (h : R x x) : PP S_running S_m_running [] x := by
  have hr : R x (mm_mrg x x) := R_mrg h
  have q1 := q_running hr
  exact ⟨e_running x, mm_mrg x x, mm_mrg x x, R_pair0 hr, fun K hk => i_running hk, fun K hk => i_m_running (by rw [← q1]; exact hk)⟩
theorem pp_watchdog {x : mm_S} (h : R x x) : PP S_watchdog S_m_watchdog [] x := by
  have hr : R x (mm_mrg x x) := R_mrg h
  have q1 := q_watchdog hr
  exact ⟨e_watchdog x, mm_mrg x x, mm_mrg x x, R_pair0 hr, fun K hk => i_watchdog hk, fun K hk => i_m_watchdog (by rw [← q1]; exact hk)⟩
theorem pp_slot (v0 : Int32) (v1 : Int32) {x : mm_S} (h : R x x) : PP S_slot S_m_slot [.int v0, .int v1] x := by
  have hr : R x (mm_mrg (e_slot v0 v1 x).2 x) := R_mrg h
  obtain ⟨q0, q1, q2⟩ := q_slot (v0 := v0) (v1 := v1) hr
  exact ⟨(e_slot v0 v1 x).1, mm_mrg (e_slot v0 v1 x).2 x, mm_mrg (e_slot v0 v1 x).2 x, R_pair0 q2, fun K hk => i_slot hk, fun K hk => i_m_slot q0 (by rw [← q1]; exact hk)⟩
theorem pp_record (v0 : Int32) {x : mm_S} (h : R x x) : PP S_record S_m_record [.int v0] x := by
  have hr : R x (mm_mrg x x) := R_mrg h
  obtain ⟨q0, q1⟩ := q_record (v0 := v0) hr
  exact ⟨e_record v0 x, mm_mrg x x, mm_mrg x x, R_pair0 hr, fun K hk => i_record hk, fun K hk => i_m_record q0 (by rw [← q1]; exact hk)⟩
theorem pp_count (v0 : Int32) {x : mm_S} (h : R x x) : PP S_count S_m_count [.int v0] x := by
  have hr : R x (mm_mrg x x) := R_mrg h
  obtain ⟨q0, q1⟩ := q_count (v0 := v0) hr
  exact ⟨e_count v0 x, mm_mrg x x, mm_mrg x x, R_pair0 hr, fun K hk => i_count hk, fun K hk => i_m_count q0 (by rw [← q1]; exact hk)⟩
