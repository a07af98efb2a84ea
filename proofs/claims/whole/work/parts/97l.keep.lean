theorem K5_CL {S S1 : lh_S} {L : GL} (h : K5 S S1) (q : CL S L) : CL S1 L := by
  unfold CL at q ⊢
  rw [h.1, h.2.1, (h.2.2.2 3 (by decide)).1, (h.2.2.2 2 (by decide)).1, (h.2.2.2 14 (by decide)).1, (h.2.2.2 15 (by decide)).1, h.2.2.1 16 (by decide), h.2.2.1 2 (by decide), h.2.2.1 12 (by decide), h.2.2.1 13 (by decide)]
  exact q
theorem K5_CO {S S1 : lh_S} {O : GO} (h : K5 S S1) (q : CO S O) : CO S1 O := by
  unfold CO at q ⊢
  rw [h.1, h.2.1, (h.2.2.2 9 (by decide)).1, (h.2.2.2 20 (by decide)).1, h.2.2.1 22 (by decide), h.2.2.1 23 (by decide), h.2.2.1 7 (by decide)]
  exact q
theorem K5_CN {S S1 : lh_S} {N : GN} (h : K5 S S1) (q : CN S N) : CN S1 N := by
  unfold CN at q ⊢
  rw [(h.2.2.2 6 (by decide)).1, (h.2.2.2 19 (by decide)).1, (h.2.2.2 9 (by decide)).1]
  exact q
theorem K5_CS {S S1 : lh_S} (h : K5 S S1) (q : CS S) : CS S1 := by
  unfold CS at q ⊢
  rw [h.1, (h.2.2.2 4 (by decide)).1, h.2.2.1 18 (by decide)]
  exact q
theorem K5_QX {S S1 : lh_S} (h : K5 S S1) (q : QX S) : QX S1 := by
  unfold QX at q ⊢
  rw [h.2.1, h.2.2.1 10 (by decide)]
  exact q
theorem K5_QL {S S1 : lh_S} {L : GL} (h : K5 S S1) (q : QL S L) : QL S1 L := by
  unfold QL at q ⊢
  rw [(h.2.2.2 10 (by decide)).1, (h.2.2.2 41 (by decide)).1, (h.2.2.2 42 (by decide)).1, (h.2.2.2 43 (by decide)).1, (h.2.2.2 44 (by decide)).1, (h.2.2.2 45 (by decide)).1, (h.2.2.2 46 (by decide)).1]
  exact q
theorem K5_QF {S S1 : lh_S} {F : GF} (h : K5 S S1) (q : QF S F) : QF S1 F := by
  unfold QF at q ⊢
  rw [(h.2.2.2 10 (by decide)).1, (h.2.2.2 32 (by decide)).1, (h.2.2.2 33 (by decide)).1, (h.2.2.2 34 (by decide)).1, (h.2.2.2 35 (by decide)).1, (h.2.2.2 36 (by decide)).1, (h.2.2.2 37 (by decide)).1, (h.2.2.2 38 (by decide)).1, (h.2.2.2 39 (by decide)).1]
  exact q
theorem K5_QC {S S1 : lh_S} {C : GC} {F : GF} (h : K5 S S1) (q : QC S C F) : QC S1 C F := by
  unfold QC at q ⊢
  rw [(h.2.2.2 10 (by decide)).1, (h.2.2.2 48 (by decide)).1, (h.2.2.2 49 (by decide)).1, (h.2.2.2 50 (by decide)).1, (h.2.2.2 51 (by decide)).1, (h.2.2.2 52 (by decide)).1, (h.2.2.2 53 (by decide)).2]
  exact q
theorem K5_QO {S S1 : lh_S} {O : GO} (h : K5 S S1) (q : QO S O) : QO S1 O := by
  unfold QO at q ⊢
  rw [(h.2.2.2 10 (by decide)).1, (h.2.2.2 67 (by decide)).1, (h.2.2.2 69 (by decide)).1, (h.2.2.2 70 (by decide)).1, (h.2.2.2 71 (by decide)).1]
  exact q
theorem K5_QN {S S1 : lh_S} {N : GN} (h : K5 S S1) (q : QN S N) : QN S1 N := by
  unfold QN at q ⊢
  rw [(h.2.2.2 10 (by decide)).1, (h.2.2.2 56 (by decide)).1]
  exact q
theorem KR_CX {S S1 : lh_S} (h : KR S S1) (q : CX S) : CX S1 := by
  unfold CX at q ⊢
  rw [h.2.1, h.2.2.1]
  exact q
theorem KR_CL {S S1 : lh_S} {L : GL} (h : KR S S1) (q : CL S L) : CL S1 L := by
  unfold CL at q ⊢
  rw [h.1, h.2.1, h.2.2.2.1 3 (by decide) (by decide), h.2.2.2.1 2 (by decide) (by decide), h.2.2.2.1 14 (by decide) (by decide), h.2.2.2.1 15 (by decide) (by decide), h.2.2.1]
  exact q
theorem KR_CF {S S1 : lh_S} {F : GF} (h : KR S S1) (q : CF S F) : CF S1 F := by
  unfold CF at q ⊢
  rw [h.1, h.2.1, h.2.2.2.1 9 (by decide) (by decide), h.2.2.2.1 1 (by decide) (by decide), h.2.2.2.1 0 (by decide) (by decide), h.2.2.2.2 0 (by decide), h.2.2.1]
  exact q
theorem KR_CC {S S1 : lh_S} {C : GC} (h : KR S S1) (q : CC S C) : CC S1 C := by
  unfold CC at q ⊢
  rw [h.1, h.2.2.2.1 4 (by decide) (by decide), h.2.2.2.1 5 (by decide) (by decide), h.2.2.2.2 5 (by decide), h.2.2.1]
  exact q
theorem KR_CO {S S1 : lh_S} {O : GO} (h : KR S S1) (q : CO S O) : CO S1 O := by
  unfold CO at q ⊢
  rw [h.1, h.2.1, h.2.2.2.1 9 (by decide) (by decide), h.2.2.2.1 20 (by decide) (by decide), h.2.2.1]
  exact q
theorem KR_CN {S S1 : lh_S} {N : GN} (h : KR S S1) (q : CN S N) : CN S1 N := by
  unfold CN at q ⊢
  rw [h.2.2.2.1 6 (by decide) (by decide), h.2.2.2.1 19 (by decide) (by decide), h.2.2.2.1 9 (by decide) (by decide)]
  exact q
theorem KR_CS {S S1 : lh_S} (h : KR S S1) (q : CS S) : CS S1 := by
  unfold CS at q ⊢
  rw [h.1, h.2.2.2.1 4 (by decide) (by decide), h.2.2.1]
  exact q
theorem KR_QL {S S1 : lh_S} {L : GL} (h : KR S S1) (q : QL S L) : QL S1 L := by
  unfold QL at q ⊢
  rw [h.2.2.2.1 10 (by decide) (by decide), h.2.2.2.1 41 (by decide) (by decide), h.2.2.2.1 42 (by decide) (by decide), h.2.2.2.1 43 (by decide) (by decide), h.2.2.2.1 44 (by decide) (by decide), h.2.2.2.1 45 (by decide) (by decide), h.2.2.2.1 46 (by decide) (by decide)]
  exact q
theorem KR_QO {S S1 : lh_S} {O : GO} (h : KR S S1) (q : QO S O) : QO S1 O := by
  unfold QO at q ⊢
  rw [h.2.2.2.1 10 (by decide) (by decide), h.2.2.2.1 67 (by decide) (by decide), h.2.2.2.1 69 (by decide) (by decide), h.2.2.2.1 70 (by decide) (by decide), h.2.2.2.1 71 (by decide) (by decide)]
  exact q
theorem KR_QN {S S1 : lh_S} {N : GN} (h : KR S S1) (q : QN S N) : QN S1 N := by
  unfold QN at q ⊢
  rw [h.2.2.2.1 10 (by decide) (by decide), h.2.2.2.1 56 (by decide) (by decide)]
  exact q
