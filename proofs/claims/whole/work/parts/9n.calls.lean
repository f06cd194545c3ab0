/-! PAIRS OF CALLS: the class's, then the reference's -/
def Pr (E : Ev) (y1 : MethodName) (c1 : ByteArray) (n1 h1 : Nat) (y2 : MethodName) (c2 : ByteArray) (n2 h2 : Nat) (As : List Value) (M : Mm) : Prop := ∃ P1 : Int → Mm → Prop, Ct E y1 c1 n1 (some .int) h1 (zr E 0 :: As) M (pI P1) ∧ ∀ z M', P1 z M' → ∃ P2 : Int → Mm → Prop, Ct E y2 c2 n2 (some .int) h2 (zr E 66 :: As) M' (pI P2) ∧ ∀ z' M'', P2 z' M'' → z = z' ∧ ∃ e d, Cpl M'' e d
theorem RI.tgl {M M' : Mm} {w : Nat} {mo L z : Int} (h : RI M) (hw : w + 3 < 66) (a : tgl M M' w mo L z) : RI M' := by
  obtain ⟨M1, ⟨s1, s1'⟩, a⟩ := a
  refine h.hi (fun q hq => ?_)
  have sq : M1 q = M q := s1 q (by simp only [List.mem_cons, List.not_mem_nil, or_false]; omega)
  rcases a with ⟨_, _, a⟩ | ⟨_, _, i, _, ⟨_, _, a⟩ | ⟨_, _, _, a⟩ | ⟨_, _, _, a⟩⟩
  · rw [a, sq]
  · rw [a, mput_ne (by omega), tDrop_o (by omega) (by omega) (by omega) (by omega), sq]
  · rw [a, sq]
  · rw [a, mput_ne (by omega), tAdd_o (by omega) (by omega) (by omega) (by omega), sq]
theorem RI.sgl {M M' : Mm} {kind z : Int} (h : RI M) (a : sgl M M' kind z) : RI M' := by
  obtain ⟨M1, ⟨s1, s1'⟩, a⟩ := a
  refine h.hi (fun q hq => ?_)
  have sq : M1 q = M q := s1 q (by simp only [List.mem_cons, List.not_mem_nil, or_false]; omega)
  rcases a with ⟨_, _, a⟩ | ⟨_, _, _, i, _, ⟨_, _, _, a⟩ | ⟨_, _, _, a⟩ | ⟨_, _, _, a⟩ | ⟨_, _, _, _, a⟩ | ⟨_, _, _, _, a⟩⟩
  · rw [a, sq]
  · rw [a, mput_ne (by omega), tDrop_o (by omega) (by omega) (by omega) (by omega), sq]
  · rw [a, mput_ne (by omega), sq]
  · rw [a, mput_ne (by omega), mput_ne (by omega), sq]
  · rw [a, sq]
  · rw [a, mput_ne (by omega), tAdd_o (by omega) (by omega) (by omega) (by omega), sq]
set_option maxHeartbeats 1000000 in
theorem pr_feed (E : Ev) {M : Mm} {e d : Nat} (h : Cpl M e d) (a1 a2 a3 a4 a5 : Int) (ga1 : rg a1) (ga2 : rg a2) (ga3 : rg a3) (ga4 : rg a4) (ga5 : rg a5) : Pr E yX10_feed cX10_feed 6 1 yX11_feed cX11_feed 9 0 [zi a1, zi a2, zi a3, zi a4, zi a5] M := by
  refine ⟨_, ct_X10_feed E M a1 a2 a3 a4 a5 h.1.2.2.1, fun z M' a => ?_⟩
  have R : RI M' := by
    rcases a with ⟨_, _, a⟩ | ⟨_, _, a⟩
    · rw [a]; exact h.2.1
    · exact h.2.1.hi (fun q hq => by rw [a, mapp_ne (by omega) (by omega), mapp_ne (by omega) (by omega), mapp_ne (by omega) (by omega), mapp_ne (by omega) (by omega), mapp_ne (by omega) (by omega)])
  exact ⟨_, ct_X11_feed E M' a1 a2 a3 a4 a5 R.1, fun z' M'' b => ⟨(q_feed h a b).1, e, d, (q_feed h a b).2⟩⟩
set_option maxHeartbeats 1000000 in
theorem pr_end (E : Ev) {M : Mm} {e d : Nat} (h : Cpl M e d) (a1 : Int) (ga1 : rg a1) : Pr E yX10_end cX10_end 2 0 yX11_end cX11_end 2 0 [zi a1] M := by
  refine ⟨_, ct_X10_end E M a1 ga1, fun z M' a => ?_⟩
  skip
  exact ⟨_, ct_X11_end E M' a1 ga1, fun z' M'' b => ⟨(q_end h a b).1, e, d, (q_end h a b).2⟩⟩
set_option maxHeartbeats 1000000 in
theorem pr_stop (E : Ev) {M : Mm} {e d : Nat} (h : Cpl M e d)  : Pr E yX10_stop cX10_stop 1 4 yX11_stop cX11_stop 2 2 [] M := by
  refine ⟨_, ct_X10_stop E M h.1.2.2.1 h.1.2.2.2.1.1, fun z M' a => ?_⟩
  have R : RI M' := h.2.1.tgl (by decide) a
  exact ⟨_, ct_X11_stop E M' R.1 R.2.1.1, fun z' M'' b => ⟨(q_stop h a b).1, e, d, (q_stop h a b).2⟩⟩
set_option maxHeartbeats 1000000 in
theorem pr_sign (E : Ev) {M : Mm} {e d : Nat} (h : Cpl M e d) (a1 : Int) (ga1 : rg a1) : Pr E yX10_sign cX10_sign 4 3 yX11_sign cX11_sign 3 2 [zi a1] M := by
  refine ⟨_, ct_X10_sign E M h.1.2.2.1 h.1.2.2.2.1.2.1 a1 ga1, fun z M' a => ?_⟩
  have R : RI M' := h.2.1.sgl a
  exact ⟨_, ct_X11_sign E M' R.1 R.2.1.2.1 a1 ga1, fun z' M'' b => ⟨(q_sign h a b).1, e, d, (q_sign h a b).2⟩⟩
set_option maxHeartbeats 1000000 in
theorem pr_ending (E : Ev) {M : Mm} {e d : Nat} (h : Cpl M e d)  : Pr E yX10_ending cX10_ending 1 4 yX11_ending cX11_ending 2 2 [] M := by
  refine ⟨_, ct_X10_ending E M h.1.2.2.1 h.1.2.2.2.1.2.2, fun z M' a => ?_⟩
  have R : RI M' := h.2.1.tgl (by decide) a
  exact ⟨_, ct_X11_ending E M' R.1 R.2.1.2.2, fun z' M'' b => ⟨(q_ending h a b).1, e, d, (q_ending h a b).2⟩⟩
set_option maxHeartbeats 1000000 in
theorem pr_weight (E : Ev) {M : Mm} {e d : Nat} (h : Cpl M e d) (a1 a2 : Int) (ga1 : rg a1) (ga2 : rg a2) : Pr E yX10_weight cX10_weight 4 0 yX11_weight cX11_weight 4 1 [zi a1, zi a2] M := by
  refine ⟨_, ct_X10_weight E M a1 a2 ga1 ga2, fun z M' a => ?_⟩
  skip
  exact ⟨_, ct_X11_weight E M' a1 a2 ga1 ga2, fun z' M'' b => ⟨(q_weight h a b).1, e, d, (q_weight h a b).2⟩⟩
set_option maxHeartbeats 1000000 in
theorem pr_fault (E : Ev) {M : Mm} {e d : Nat} (h : Cpl M e d) (a1 : Int) (ga1 : rg a1) : Pr E yX10_fault cX10_fault 2 0 yX11_fault cX11_fault 2 0 [zi a1] M := by
  refine ⟨_, ct_X10_fault E M a1 ga1, fun z M' a => ?_⟩
  obtain ⟨rfl, a⟩ := a
  refine ⟨_, ct_X11_fault E _ a1 ga1, fun z' M'' b => ?_⟩
  obtain ⟨rfl, b⟩ := b
  exact ⟨q_fault h a b, e, d, h⟩
set_option maxHeartbeats 1000000 in
theorem pr_sentence (E : Ev) {M : Mm} {e d : Nat} (h : Cpl M e d) (a1 a2 : Int) (ga1 : rg a1) (ga2 : rg a2) : Pr E yX10_sentence cX10_sentence 4 6 yX11_sentence cX11_sentence 3 6 [zi a1, zi a2] M := by
  refine ⟨_, ct_X10_sentence E e d M h.1 a1 a2 ga1 ga2, fun z M' a => ?_⟩
  have R : RI M' := by
    rcases a with ⟨_, _, a⟩ | ⟨_, a, _⟩
    · rw [a]; exact h.2.1
    · exact (h.frs a).2.1
  exact ⟨_, ct_X11_sentence E M' R a1 a2 ga1 ga2, fun z' M'' b => ⟨(q_sentence h a b).1, e, d, (q_sentence h a b).2⟩⟩
set_option maxHeartbeats 1000000 in
theorem pr_word (E : Ev) {M : Mm} {e d : Nat} (h : Cpl M e d) (a1 a2 a3 : Int) (ga1 : rg a1) (ga2 : rg a2) (ga3 : rg a3) : Pr E yX10_word cX10_word 6 1 yX11_word cX11_word 4 2 [zi a1, zi a2, zi a3] M := by
  refine ⟨_, ct_X10_word E e h.he M h.1.2.1.1 h.1.2.2.2.2.2.2.1.1 h.1.2.2.2.2.2.2.1.2.1 a1 a2 a3 ga1 ga2 ga3, fun z M' a => ?_⟩
  obtain ⟨rfl, a⟩ := a
  refine ⟨_, ct_X11_word E _ h.2.1 a1 a2 a3 ga1 ga2 ga3, fun z' M'' b => ?_⟩
  obtain ⟨rfl, b⟩ := b
  exact ⟨q_word h a b, e, d, h⟩
set_option maxHeartbeats 1000000 in
theorem pr_shared (E : Ev) {M : Mm} {e d : Nat} (h : Cpl M e d) (a1 a2 : Int) (ga1 : rg a1) (ga2 : rg a2) : Pr E yX10_shared cX10_shared 3 5 yX11_shared cX11_shared 3 6 [zi a1, zi a2] M := by
  refine ⟨_, ct_X10_shared E e d M h.1 a1 a2 ga1 ga2, fun z M' a => ?_⟩
  have R : RI M' := by
    rcases a with ⟨_, _, a⟩ | ⟨_, a, _⟩
    · rw [a]; exact h.2.1
    · exact (h.frK a).2.1
  exact ⟨_, ct_X11_shared E M' R a1 a2 ga1 ga2, fun z' M'' b => ⟨(q_shared h a b).1, e, d, (q_shared h a b).2⟩⟩
set_option maxHeartbeats 1000000 in
theorem pr_cost (E : Ev) {M : Mm} {e d : Nat} (h : Cpl M e d) (a1 a2 : Int) (ga1 : rg a1) (ga2 : rg a2) : Pr E yX10_cost cX10_cost 3 5 yX11_cost cX11_cost 3 6 [zi a1, zi a2] M := by
  refine ⟨_, ct_X10_cost E e d M h.1 a1 a2 ga1 ga2, fun z M' a => ?_⟩
  have R : RI M' := by
    rcases a with ⟨_, _, a⟩ | ⟨_, a, _⟩
    · rw [a]; exact h.2.1
    · exact (h.frK a).2.1
  exact ⟨_, ct_X11_cost E M' R a1 a2 ga1 ga2, fun z' M'' b => ⟨(q_cost h a b).1, e, d, (q_cost h a b).2⟩⟩
set_option maxHeartbeats 1000000 in
theorem pr_tree (E : Ev) {M : Mm} {e d : Nat} (h : Cpl M e d)  : Pr E yX10_tree cX10_tree 1 6 yX11_tree cX11_tree 1 6 [] M := by
  refine ⟨_, ct_X10_tree E e d M h.1, fun z M' a => ?_⟩
  have R : RI M' := by
    rcases a with ⟨_, _, a⟩ | ⟨_, a, _⟩
    · rw [a]; exact h.2.1
    · exact (h.frs a).2.1
  exact ⟨_, ct_X11_tree E M' R, fun z' M'' b => ⟨(q_tree h a b).1, e, d, (q_tree h a b).2⟩⟩
set_option maxHeartbeats 1000000 in
theorem pr_next (E : Ev) {M : Mm} {e d : Nat} (h : Cpl M e d)  : Pr E yX10_next cX10_next 2 6 yX11_next cX11_next 1 6 [] M := by
  refine ⟨_, ct_X10_next E e d M h.1, fun z M' a => ?_⟩
  have R : RI M' := by
    rcases a with ⟨_, _, a⟩ | ⟨_, a, _⟩
    · rw [a]; exact h.2.1
    · exact (h.frs a).2.1
  exact ⟨_, ct_X11_next E M' R, fun z' M'' b => ⟨(q_next h a b).1, e, d, (q_next h a b).2⟩⟩
set_option maxHeartbeats 1000000 in
theorem pr_finding (E : Ev) {M : Mm} {e d : Nat} (h : Cpl M e d) (a1 : Int) (ga1 : rg a1) : Pr E yX10_finding cX10_finding 2 6 yX11_finding cX11_finding 2 6 [zi a1] M := by
  refine ⟨_, ct_X10_finding E e d M h.1 a1 ga1, fun z M' a => ?_⟩
  have R : RI M' := by
    rcases a with ⟨_, _, a⟩ | ⟨_, a, _⟩
    · rw [a]; exact h.2.1
    · exact (h.frs a).2.1
  exact ⟨_, ct_X11_finding E M' R a1 ga1, fun z' M'' b => ⟨(q_finding h a b).1, e, d, (q_finding h a b).2⟩⟩
set_option maxHeartbeats 1000000 in
theorem pr_marks (E : Ev) {M : Mm} {e d : Nat} (h : Cpl M e d) (a1 a2 a3 a4 a5 : Int) (ga1 : rg a1) (ga2 : rg a2) (ga3 : rg a3) (ga4 : rg a4) (ga5 : rg a5) : Pr E yX10_marks cX10_marks 9 6 yX11_marks cX11_marks 9 6 [zi a1, zi a2, zi a3, zi a4, zi a5] M := by
  refine ⟨_, ct_X10_marks E e d M h.1 a1 a2 a3 a4 a5 ga1 ga2 ga3 ga4 ga5, fun z M' a => ?_⟩
  have R : RI M' := by
    rcases a with ⟨_, _, a⟩ | ⟨_, a, _⟩
    · rw [a]; exact h.2.1
    · exact (h.frs a).2.1
  exact ⟨_, ct_X11_marks E M' R a1 a2 a3 a4 a5 ga1 ga2 ga3 ga4 ga5, fun z' M'' b => ⟨(q_marks h a b).1, e, d, (q_marks h a b).2⟩⟩
set_option maxHeartbeats 1000000 in
theorem pr_pair (E : Ev) {M : Mm} {e d : Nat} (h : Cpl M e d) (a1 a2 : Int) (ga1 : rg a1) (ga2 : rg a2) : Pr E yX10_pair cX10_pair 5 1 yX11_pair cX11_pair 4 2 [zi a1, zi a2] M := by
  refine ⟨_, ct_X10_pair E e h.he M h.1.2.1.1 h.1.2.2.2.2.2.2.1.1.1 h.1.2.2.2.2.2.2.1.2.1 h.1.2.2.2.2.2.2.1.2.2 a1 a2 ga1 ga2, fun z M' a => ?_⟩
  have R : RI M' := by
    refine h.2.1.hi (fun q hq => ?_)
    rcases a with ⟨_, _, a⟩ | ⟨_, ⟨_, _, a⟩ | ⟨_, _, _, a⟩ | ⟨_, _, _, _, a⟩ | ⟨_, _, _, _, a⟩⟩
    · rw [a]
    · rw [a]
    · rw [a]
    · rw [a]
    · rw [a, mput_ne (by omega), mput_ne (by omega), mput_ne (by omega)]
  exact ⟨_, ct_X11_pair E M' R a1 a2 ga1 ga2, fun z' M'' b => ⟨(q_pair h a b).1, e, d, (q_pair h a b).2⟩⟩
set_option maxHeartbeats 1000000 in
theorem pr_order (E : Ev) {M : Mm} {e d : Nat} (h : Cpl M e d) (a1 : Int) (ga1 : rg a1) : Pr E yX10_order cX10_order 3 6 yX11_order cX11_order 4 6 [zi a1] M := by
  refine ⟨_, ct_X10_order E e d M h.1 a1 ga1, fun z M' a => ?_⟩
  have R : RI M' := by
    rcases a with ⟨_, _, a⟩ | ⟨_, M1, r, f, _, a2⟩
    · rw [a]; exact h.2.1
    · refine (h.frs f).2.1.hi (fun q hq => ?_)
      rcases a2 with ⟨_, _, a⟩ | ⟨_, al, be, M2, M3, x, ⟨_, _, a⟩ | ⟨_, _, a⟩⟩
      · rw [a]
      · rw [a, x.sm.1 q (by omega)]
      · rw [a.2.1 q (by simp only [List.mem_cons, List.not_mem_nil, or_false]; omega), x.sm.1 q (by omega)]
  exact ⟨_, ct_X11_order E M' R a1 ga1, fun z' M'' b => ⟨(q_order h a b).1, e, d, (q_order h a b).2⟩⟩
set_option maxHeartbeats 1000000 in
theorem pr_ordered (E : Ev) {M : Mm} {e d : Nat} (h : Cpl M e d) (a1 : Int) (ga1 : rg a1) : Pr E yX10_ordered cX10_ordered 2 0 yX11_ordered cX11_ordered 2 1 [zi a1] M := by
  refine ⟨_, ct_X10_ordered E M a1 ga1 h.1.2.2.2.2.2.2.2.1.2, fun z M' a => ?_⟩
  obtain ⟨rfl, a⟩ := a
  refine ⟨_, ct_X11_ordered E _ a1 ga1 h.2.1.2.2.2.2.2.2.1, fun z' M'' b => ?_⟩
  obtain ⟨rfl, b⟩ := b
  exact ⟨q_ordered h a b, e, d, h⟩
set_option maxHeartbeats 1000000 in
theorem pr_stands (E : Ev) {M : Mm} {e d : Nat} (h : Cpl M e d) (a1 : Int) (ga1 : rg a1) : Pr E yX10_stands cX10_stands 4 6 yX11_stands cX11_stands 4 6 [zi a1] M := by
  refine ⟨_, ct_X10_stands E e d M h.1 a1 ga1, fun z M' a => ?_⟩
  have R : RI M' := by
    rcases a with ⟨_, _, a⟩ | ⟨_, a, _⟩
    · rw [a]; exact h.2.1
    · exact (h.frs a).2.1
  exact ⟨_, ct_X11_stands E M' R a1 ga1, fun z' M'' b => ⟨(q_stands h a b).1, e, d, (q_stands h a b).2⟩⟩
set_option maxHeartbeats 1000000 in
theorem pr_arrange (E : Ev) {M : Mm} {e d : Nat} (h : Cpl M e d) (a1 : Int) (ga1 : rg a1) : Pr E yX10_arrange cX10_arrange 4 6 yX11_arrange cX11_arrange 7 6 [zi a1] M := by
  refine ⟨_, ct_X10_arrange E e d M h.1 a1 ga1, fun z M' a => ?_⟩
  have R : RI M' := by
    rcases a with ⟨_, _, a⟩ | ⟨_, M1, r, f, _, a2⟩
    · rw [a]; exact h.2.1
    · refine (h.frs f).2.1.hi (fun q hq => ?_)
      rcases a2 with ⟨_, _, a⟩ | ⟨_, al, be, M2, M3, x, ⟨_, _, a⟩ | ⟨_, _, l, u, _, a⟩⟩
      · rw [a]
      · rw [a, x.sm.1 q (by omega)]
      · rw [a.1 q (by simp only [List.mem_cons, List.not_mem_nil, or_false]; omega), x.sm.1 q (by omega)]
  exact ⟨_, ct_X11_arrange E M' R a1 ga1, fun z' M'' b => ⟨(q_arrange h a b).1, e, d, (q_arrange h a b).2⟩⟩
set_option maxHeartbeats 1000000 in
theorem pr_move (E : Ev) {M : Mm} {e d : Nat} (h : Cpl M e d) (a1 a2 : Int) (ga1 : rg a1) (ga2 : rg a2) : Pr E yX10_move cX10_move 6 6 yX11_move cX11_move 6 6 [zi a1, zi a2] M := by
  refine ⟨_, ct_X10_move E e d M h.1 a1 a2 ga1 ga2, fun z M' a => ?_⟩
  have R : RI M' := by
    rcases a with ⟨_, _, a⟩ | ⟨_, M1, r, l, u, f, _, _, a2⟩
    · rw [a]; exact h.2.1
    · refine (h.frs f).2.1.hi (fun q hq => ?_)
      rcases a2 with ⟨_, _, _, a⟩ | ⟨_, a⟩
      · rw [a]
      · exact a.1 q (by simp only [List.mem_cons, List.not_mem_nil, or_false]; omega)
  exact ⟨_, ct_X11_move E M' R a1 a2 ga1 ga2, fun z' M'' b => ⟨(q_move h a b).1, e, d, (q_move h a b).2⟩⟩
set_option maxHeartbeats 1000000 in
theorem pr_count (E : Ev) {M : Mm} {e d : Nat} (h : Cpl M e d) (a1 : Int) (ga1 : rg a1) : Pr E yX10_count cX10_count 2 7 yX11_count cX11_count 3 6 [zi a1] M := by
  refine ⟨_, ct_X10_count E e d M h.1 a1 ga1, fun z M' a => ?_⟩
  have R : RI M' := by
    rcases a with ⟨_, a, _⟩ | ⟨_, ⟨_, _, a⟩ | ⟨_, a, _⟩⟩
    · rw [a]; exact h.2.1
    · rw [a]; exact h.2.1
    · exact (h.frs a).2.1
  exact ⟨_, ct_X11_count E M' R a1 ga1, fun z' M'' b => ⟨(q_count h a b).1, e, d, (q_count h a b).2⟩⟩
theorem pr_read (E : Ev) {M : Mm} {e d : Nat} (h : Cpl M e d) : Pr E yX10_read cX10_read 2 5 yX11_read cX11_read 6 2 [] M := by
  refine ⟨_, ct_X10_read E e d h.1.1 M h.1.2.1.1 h.1.2.1.2 h.1.2.2.1, fun z M' a => ?_⟩
  have hd : d = 17 ∨ d = 24 := by have := h.1.1; omega
  obtain ⟨⟨g1, g2, g3⟩, _⟩ := q_read (M'' := M) (z' := 0) h a
  refine ⟨_, ct_X11_read E M M' d hd (M 1 1) g1 rfl g2 g3, fun z' M'' b => ?_⟩
  exact (q_read h a).2 b
