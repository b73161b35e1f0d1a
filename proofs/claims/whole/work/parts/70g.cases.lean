section LAWC
variable {X : JX} {l : Launch} {G : GB} {kc ks : Nat} {b L i k : Nat} {xs : Nat → Int32} {a h : Nat → Nat} {x y : Q3}
theorem w_holdsFor (E : JE X l G cL_law RL 4 13 484) (S : scr X b L xs) (hi : i + 5 < L) (hr : kc ≤ X.1.2.2.2.1.cells ∧ ks ≤ X.1.2.2.2.1.slots) (hp : PairI l G a h yX5_holdsFor cX5_holdsFor 3 yX6_holdsFor cX6_holdsFor 4 [.int (xs (i + 1)), .int (xs (i + 2))] k x y) (K : ∀ x' y', Rel (k + 1) x' y' → J X G 4 kc ks (wC G a x' ++ wM G h y') (lvL b (a 0) (h 0) i) 1433 []) : J X G 4 kc ks (wC G a x ++ wM G h y) (lvL b (a 0) (h 0) i) 608 [] := by
  obtain ⟨R, x', y', f1, l1, f2, l2, ⟨q1, q2, q3, q4⟩, hC, hM, r⟩ := hp
  refine J_aload_n E dL_law_608 rfl 2 rfl ?_
  refine J_arg E S 1 (by omega) (by decide) dL_law_609 dL_law_610 dL_law_611 dL_law_612 dL_law_613 ?_
  refine J_arg E S 2 (by omega) (by decide) dL_law_614 dL_law_615 dL_law_616 dL_law_617 dL_law_618 ?_
  refine J_callVi E (As := [.int (xs (i + 1)), .int (xs (i + 2))]) (rest := []) (ci := 4) (q0 := 0) [] (wM G h y) hC cl_L_73 yo_X5_holdsFor dL_law_619 rfl rfl rfl (by omega) (by omega) rfl (Nat.le_of_ble_eq_true rfl) rfl hr (fun v w1 e => ?_)
  obtain ⟨e1, x1, rfl, sx⟩ := e
  subst e1
  refine J_w (ws' := wC G a x1 ++ wM G h y) rfl ?_
  refine J_aload_n E dL_law_622 rfl 1 rfl ?_
  refine J_arg E S 1 (by omega) (by decide) dL_law_623 dL_law_624 dL_law_625 dL_law_626 dL_law_627 ?_
  refine J_arg E S 2 (by omega) (by decide) dL_law_628 dL_law_629 dL_law_630 dL_law_631 dL_law_632 ?_
  refine J_callVi E (As := [.int (xs (i + 1)), .int (xs (i + 2))]) (rest := [.int v]) (ci := 5) (q0 := 0) (wC G a x1) [] hM cl_L_76 yo_X6_holdsFor dL_law_633 rfl rfl rfl (by omega) (by omega) rfl (Nat.le_of_ble_eq_true rfl) (by rw [List.append_nil]) hr (fun u w2 e => ?_)
  obtain ⟨e2, y1, rfl, sy⟩ := e
  subst e2
  refine J_w (ws' := wC G a x1 ++ wM G h y1) (by rw [List.append_nil]) ?_
  exact J_icmp_eq E (tgt := 1433) dL_law_636 (by decide) (fun _ => K x1 y1 (r.sh sx sy)) (fun z => absurd rfl z)
theorem w_needFor (E : JE X l G cL_law RL 4 13 484) (S : scr X b L xs) (hi : i + 5 < L) (hr : kc ≤ X.1.2.2.2.1.cells ∧ ks ≤ X.1.2.2.2.1.slots) (hp : PairI l G a h yX5_needFor cX5_needFor 4 yX6_needFor cX6_needFor 4 [.int (xs (i + 1)), .int (xs (i + 2))] k x y) (K : ∀ x' y', Rel (k + 1) x' y' → J X G 4 kc ks (wC G a x' ++ wM G h y') (lvL b (a 0) (h 0) i) 1433 []) : J X G 4 kc ks (wC G a x ++ wM G h y) (lvL b (a 0) (h 0) i) 641 [] := by
  obtain ⟨R, x', y', f1, l1, f2, l2, ⟨q1, q2, q3, q4⟩, hC, hM, r⟩ := hp
  refine J_aload_n E dL_law_641 rfl 2 rfl ?_
  refine J_arg E S 1 (by omega) (by decide) dL_law_642 dL_law_643 dL_law_644 dL_law_645 dL_law_646 ?_
  refine J_arg E S 2 (by omega) (by decide) dL_law_647 dL_law_648 dL_law_649 dL_law_650 dL_law_651 ?_
  refine J_callVi E (As := [.int (xs (i + 1)), .int (xs (i + 2))]) (rest := []) (ci := 4) (q0 := 0) [] (wM G h y) hC cl_L_77 yo_X5_needFor dL_law_652 rfl rfl rfl (by omega) (by omega) rfl (Nat.le_of_ble_eq_true rfl) rfl hr (fun v w1 e => ?_)
  obtain ⟨e1, x1, rfl, sx⟩ := e
  subst e1
  refine J_w (ws' := wC G a x1 ++ wM G h y) rfl ?_
  refine J_aload_n E dL_law_655 rfl 1 rfl ?_
  refine J_arg E S 1 (by omega) (by decide) dL_law_656 dL_law_657 dL_law_658 dL_law_659 dL_law_660 ?_
  refine J_arg E S 2 (by omega) (by decide) dL_law_661 dL_law_662 dL_law_663 dL_law_664 dL_law_665 ?_
  refine J_callVi E (As := [.int (xs (i + 1)), .int (xs (i + 2))]) (rest := [.int v]) (ci := 5) (q0 := 0) (wC G a x1) [] hM cl_L_80 yo_X6_needFor dL_law_666 rfl rfl rfl (by omega) (by omega) rfl (Nat.le_of_ble_eq_true rfl) (by rw [List.append_nil]) hr (fun u w2 e => ?_)
  obtain ⟨e2, y1, rfl, sy⟩ := e
  subst e2
  refine J_w (ws' := wC G a x1 ++ wM G h y1) (by rw [List.append_nil]) ?_
  exact J_icmp_eq E (tgt := 1433) dL_law_669 (by decide) (fun _ => K x1 y1 (r.sh sx sy)) (fun z => absurd rfl z)
theorem w_kindsFor (E : JE X l G cL_law RL 4 13 484) (S : scr X b L xs) (hi : i + 5 < L) (hr : kc ≤ X.1.2.2.2.1.cells ∧ ks ≤ X.1.2.2.2.1.slots) (hp : PairI l G a h yX5_kindsFor cX5_kindsFor 5 yX6_kindsFor cX6_kindsFor 5 [.int (xs (i + 1)), .int (xs (i + 2))] k x y) (K : ∀ x' y', Rel (k + 1) x' y' → J X G 4 kc ks (wC G a x' ++ wM G h y') (lvL b (a 0) (h 0) i) 1433 []) : J X G 4 kc ks (wC G a x ++ wM G h y) (lvL b (a 0) (h 0) i) 674 [] := by
  obtain ⟨R, x', y', f1, l1, f2, l2, ⟨q1, q2, q3, q4⟩, hC, hM, r⟩ := hp
  refine J_aload_n E dL_law_674 rfl 2 rfl ?_
  refine J_arg E S 1 (by omega) (by decide) dL_law_675 dL_law_676 dL_law_677 dL_law_678 dL_law_679 ?_
  refine J_arg E S 2 (by omega) (by decide) dL_law_680 dL_law_681 dL_law_682 dL_law_683 dL_law_684 ?_
  refine J_callVi E (As := [.int (xs (i + 1)), .int (xs (i + 2))]) (rest := []) (ci := 4) (q0 := 0) [] (wM G h y) hC cl_L_81 yo_X5_kindsFor dL_law_685 rfl rfl rfl (by omega) (by omega) rfl (Nat.le_of_ble_eq_true rfl) rfl hr (fun v w1 e => ?_)
  obtain ⟨e1, x1, rfl, sx⟩ := e
  subst e1
  refine J_w (ws' := wC G a x1 ++ wM G h y) rfl ?_
  refine J_aload_n E dL_law_688 rfl 1 rfl ?_
  refine J_arg E S 1 (by omega) (by decide) dL_law_689 dL_law_690 dL_law_691 dL_law_692 dL_law_693 ?_
  refine J_arg E S 2 (by omega) (by decide) dL_law_694 dL_law_695 dL_law_696 dL_law_697 dL_law_698 ?_
  refine J_callVi E (As := [.int (xs (i + 1)), .int (xs (i + 2))]) (rest := [.int v]) (ci := 5) (q0 := 0) (wC G a x1) [] hM cl_L_84 yo_X6_kindsFor dL_law_699 rfl rfl rfl (by omega) (by omega) rfl (Nat.le_of_ble_eq_true rfl) (by rw [List.append_nil]) hr (fun u w2 e => ?_)
  obtain ⟨e2, y1, rfl, sy⟩ := e
  subst e2
  refine J_w (ws' := wC G a x1 ++ wM G h y1) (by rw [List.append_nil]) ?_
  exact J_icmp_eq E (tgt := 1433) dL_law_702 (by decide) (fun _ => K x1 y1 (r.sh sx sy)) (fun z => absurd rfl z)
theorem w_kindFor (E : JE X l G cL_law RL 4 13 484) (S : scr X b L xs) (hi : i + 5 < L) (hr : kc ≤ X.1.2.2.2.1.cells ∧ ks ≤ X.1.2.2.2.1.slots) (hp : PairI l G a h yX5_kindFor cX5_kindFor 6 yX6_kindFor cX6_kindFor 7 [.int (xs (i + 1)), .int (xs (i + 2))] k x y) (K : ∀ x' y', Rel (k + 1) x' y' → J X G 4 kc ks (wC G a x' ++ wM G h y') (lvL b (a 0) (h 0) i) 1433 []) : J X G 4 kc ks (wC G a x ++ wM G h y) (lvL b (a 0) (h 0) i) 707 [] := by
  obtain ⟨R, x', y', f1, l1, f2, l2, ⟨q1, q2, q3, q4⟩, hC, hM, r⟩ := hp
  refine J_aload_n E dL_law_707 rfl 2 rfl ?_
  refine J_arg E S 1 (by omega) (by decide) dL_law_708 dL_law_709 dL_law_710 dL_law_711 dL_law_712 ?_
  refine J_arg E S 2 (by omega) (by decide) dL_law_713 dL_law_714 dL_law_715 dL_law_716 dL_law_717 ?_
  refine J_callVi E (As := [.int (xs (i + 1)), .int (xs (i + 2))]) (rest := []) (ci := 4) (q0 := 0) [] (wM G h y) hC cl_L_85 yo_X5_kindFor dL_law_718 rfl rfl rfl (by omega) (by omega) rfl (Nat.le_of_ble_eq_true rfl) rfl hr (fun v w1 e => ?_)
  obtain ⟨e1, x1, rfl, sx⟩ := e
  subst e1
  refine J_w (ws' := wC G a x1 ++ wM G h y) rfl ?_
  refine J_aload_n E dL_law_721 rfl 1 rfl ?_
  refine J_arg E S 1 (by omega) (by decide) dL_law_722 dL_law_723 dL_law_724 dL_law_725 dL_law_726 ?_
  refine J_arg E S 2 (by omega) (by decide) dL_law_727 dL_law_728 dL_law_729 dL_law_730 dL_law_731 ?_
  refine J_callVi E (As := [.int (xs (i + 1)), .int (xs (i + 2))]) (rest := [.int v]) (ci := 5) (q0 := 0) (wC G a x1) [] hM cl_L_88 yo_X6_kindFor dL_law_732 rfl rfl rfl (by omega) (by omega) rfl (Nat.le_of_ble_eq_true rfl) (by rw [List.append_nil]) hr (fun u w2 e => ?_)
  obtain ⟨e2, y1, rfl, sy⟩ := e
  subst e2
  refine J_w (ws' := wC G a x1 ++ wM G h y1) (by rw [List.append_nil]) ?_
  exact J_icmp_eq E (tgt := 1433) dL_law_735 (by decide) (fun _ => K x1 y1 (r.sh sx sy)) (fun z => absurd rfl z)
theorem w_turn (E : JE X l G cL_law RL 4 13 484) (S : scr X b L xs) (hi : i + 5 < L) (hr : kc ≤ X.1.2.2.2.1.cells ∧ ks ≤ X.1.2.2.2.1.slots) (hp : PairI l G a h yX5_turn cX5_turn 6 yX6_turn cX6_turn 6 [.int (xs (i + 1)), .int (xs (i + 2))] k x y) (K : ∀ x' y', Rel (k + 1) x' y' → J X G 4 kc ks (wC G a x' ++ wM G h y') (lvL b (a 0) (h 0) i) 1433 []) : J X G 4 kc ks (wC G a x ++ wM G h y) (lvL b (a 0) (h 0) i) 740 [] := by
  obtain ⟨R, x', y', f1, l1, f2, l2, ⟨q1, q2, q3, q4⟩, hC, hM, r⟩ := hp
  refine J_aload_n E dL_law_740 rfl 2 rfl ?_
  refine J_arg E S 1 (by omega) (by decide) dL_law_741 dL_law_742 dL_law_743 dL_law_744 dL_law_745 ?_
  refine J_arg E S 2 (by omega) (by decide) dL_law_746 dL_law_747 dL_law_748 dL_law_749 dL_law_750 ?_
  refine J_callVi E (As := [.int (xs (i + 1)), .int (xs (i + 2))]) (rest := []) (ci := 4) (q0 := 0) [] (wM G h y) hC cl_L_89 yo_X5_turn dL_law_751 rfl rfl rfl (by omega) (by omega) rfl (Nat.le_of_ble_eq_true rfl) rfl hr (fun v w1 e => ?_)
  obtain ⟨e1, x1, rfl, sx⟩ := e
  subst e1
  refine J_w (ws' := wC G a x1 ++ wM G h y) rfl ?_
  refine J_aload_n E dL_law_754 rfl 1 rfl ?_
  refine J_arg E S 1 (by omega) (by decide) dL_law_755 dL_law_756 dL_law_757 dL_law_758 dL_law_759 ?_
  refine J_arg E S 2 (by omega) (by decide) dL_law_760 dL_law_761 dL_law_762 dL_law_763 dL_law_764 ?_
  refine J_callVi E (As := [.int (xs (i + 1)), .int (xs (i + 2))]) (rest := [.int v]) (ci := 5) (q0 := 0) (wC G a x1) [] hM cl_L_92 yo_X6_turn dL_law_765 rfl rfl rfl (by omega) (by omega) rfl (Nat.le_of_ble_eq_true rfl) (by rw [List.append_nil]) hr (fun u w2 e => ?_)
  obtain ⟨e2, y1, rfl, sy⟩ := e
  subst e2
  refine J_w (ws' := wC G a x1 ++ wM G h y1) (by rw [List.append_nil]) ?_
  exact J_icmp_eq E (tgt := 1433) dL_law_768 (by decide) (fun _ => K x1 y1 (r.sh sx sy)) (fun z => absurd rfl z)
theorem w_best (E : JE X l G cL_law RL 4 13 484) (S : scr X b L xs) (hi : i + 5 < L) (hr : kc ≤ X.1.2.2.2.1.cells ∧ ks ≤ X.1.2.2.2.1.slots) (hp : PairI l G a h yX5_best cX5_best 6 yX6_best cX6_best 6 [.int (xs (i + 1))] k x y) (K : ∀ x' y', Rel (k + 1) x' y' → J X G 4 kc ks (wC G a x' ++ wM G h y') (lvL b (a 0) (h 0) i) 1433 []) : J X G 4 kc ks (wC G a x ++ wM G h y) (lvL b (a 0) (h 0) i) 773 [] := by
  obtain ⟨R, x', y', f1, l1, f2, l2, ⟨q1, q2, q3, q4⟩, hC, hM, r⟩ := hp
  refine J_aload_n E dL_law_773 rfl 2 rfl ?_
  refine J_arg E S 1 (by omega) (by decide) dL_law_774 dL_law_775 dL_law_776 dL_law_777 dL_law_778 ?_
  refine J_callVi E (As := [.int (xs (i + 1))]) (rest := []) (ci := 4) (q0 := 0) [] (wM G h y) hC cl_L_93 yo_X5_best dL_law_779 rfl rfl rfl (by omega) (by omega) rfl (Nat.le_of_ble_eq_true rfl) rfl hr (fun v w1 e => ?_)
  obtain ⟨e1, x1, rfl, sx⟩ := e
  subst e1
  refine J_w (ws' := wC G a x1 ++ wM G h y) rfl ?_
  refine J_aload_n E dL_law_782 rfl 1 rfl ?_
  refine J_arg E S 1 (by omega) (by decide) dL_law_783 dL_law_784 dL_law_785 dL_law_786 dL_law_787 ?_
  refine J_callVi E (As := [.int (xs (i + 1))]) (rest := [.int v]) (ci := 5) (q0 := 0) (wC G a x1) [] hM cl_L_96 yo_X6_best dL_law_788 rfl rfl rfl (by omega) (by omega) rfl (Nat.le_of_ble_eq_true rfl) (by rw [List.append_nil]) hr (fun u w2 e => ?_)
  obtain ⟨e2, y1, rfl, sy⟩ := e
  subst e2
  refine J_w (ws' := wC G a x1 ++ wM G h y1) (by rw [List.append_nil]) ?_
  exact J_icmp_eq E (tgt := 1433) dL_law_791 (by decide) (fun _ => K x1 y1 (r.sh sx sy)) (fun z => absurd rfl z)
theorem w_love (E : JE X l G cL_law RL 4 13 484) (S : scr X b L xs) (hi : i + 5 < L) (hr : kc ≤ X.1.2.2.2.1.cells ∧ ks ≤ X.1.2.2.2.1.slots) (hp : PairI l G a h yX5_love cX5_love 6 yX6_love cX6_love 7 [.int (xs (i + 1)), .int (xs (i + 2))] k x y) (K : ∀ x' y', Rel (k + 1) x' y' → J X G 4 kc ks (wC G a x' ++ wM G h y') (lvL b (a 0) (h 0) i) 1433 []) : J X G 4 kc ks (wC G a x ++ wM G h y) (lvL b (a 0) (h 0) i) 796 [] := by
  obtain ⟨R, x', y', f1, l1, f2, l2, ⟨q1, q2, q3, q4⟩, hC, hM, r⟩ := hp
  refine J_aload_n E dL_law_796 rfl 2 rfl ?_
  refine J_arg E S 1 (by omega) (by decide) dL_law_797 dL_law_798 dL_law_799 dL_law_800 dL_law_801 ?_
  refine J_arg E S 2 (by omega) (by decide) dL_law_802 dL_law_803 dL_law_804 dL_law_805 dL_law_806 ?_
  refine J_callVi E (As := [.int (xs (i + 1)), .int (xs (i + 2))]) (rest := []) (ci := 4) (q0 := 0) [] (wM G h y) hC cl_L_97 yo_X5_love dL_law_807 rfl rfl rfl (by omega) (by omega) rfl (Nat.le_of_ble_eq_true rfl) rfl hr (fun v w1 e => ?_)
  obtain ⟨e1, x1, rfl, sx⟩ := e
  subst e1
  refine J_w (ws' := wC G a x1 ++ wM G h y) rfl ?_
  refine J_aload_n E dL_law_810 rfl 1 rfl ?_
  refine J_arg E S 1 (by omega) (by decide) dL_law_811 dL_law_812 dL_law_813 dL_law_814 dL_law_815 ?_
  refine J_arg E S 2 (by omega) (by decide) dL_law_816 dL_law_817 dL_law_818 dL_law_819 dL_law_820 ?_
  refine J_callVi E (As := [.int (xs (i + 1)), .int (xs (i + 2))]) (rest := [.int v]) (ci := 5) (q0 := 0) (wC G a x1) [] hM cl_L_100 yo_X6_love dL_law_821 rfl rfl rfl (by omega) (by omega) rfl (Nat.le_of_ble_eq_true rfl) (by rw [List.append_nil]) hr (fun u w2 e => ?_)
  obtain ⟨e2, y1, rfl, sy⟩ := e
  subst e2
  refine J_w (ws' := wC G a x1 ++ wM G h y1) (by rw [List.append_nil]) ?_
  exact J_icmp_eq E (tgt := 1433) dL_law_824 (by decide) (fun _ => K x1 y1 (r.sh sx sy)) (fun z => absurd rfl z)
theorem w_burst (E : JE X l G cL_law RL 4 13 484) (S : scr X b L xs) (hi : i + 5 < L) (hr : kc ≤ X.1.2.2.2.1.cells ∧ ks ≤ X.1.2.2.2.1.slots) (hp : PairI l G a h yX5_burst cX5_burst 5 yX6_burst cX6_burst 5 [.int (xs (i + 1)), .int (xs (i + 2)), .int (xs (i + 3))] k x y) (K : ∀ x' y', Rel (k + 1) x' y' → J X G 4 kc ks (wC G a x' ++ wM G h y') (lvL b (a 0) (h 0) i) 1433 []) : J X G 4 kc ks (wC G a x ++ wM G h y) (lvL b (a 0) (h 0) i) 829 [] := by
  obtain ⟨R, x', y', f1, l1, f2, l2, ⟨q1, q2, q3, q4⟩, hC, hM, r⟩ := hp
  refine J_aload_n E dL_law_829 rfl 2 rfl ?_
  refine J_arg E S 1 (by omega) (by decide) dL_law_830 dL_law_831 dL_law_832 dL_law_833 dL_law_834 ?_
  refine J_arg E S 2 (by omega) (by decide) dL_law_835 dL_law_836 dL_law_837 dL_law_838 dL_law_839 ?_
  refine J_arg E S 3 (by omega) (by decide) dL_law_840 dL_law_841 dL_law_842 dL_law_843 dL_law_844 ?_
  refine J_callVi E (As := [.int (xs (i + 1)), .int (xs (i + 2)), .int (xs (i + 3))]) (rest := []) (ci := 4) (q0 := 0) [] (wM G h y) hC cl_L_101 yo_X5_burst dL_law_845 rfl rfl rfl (by omega) (by omega) rfl (Nat.le_of_ble_eq_true rfl) rfl hr (fun v w1 e => ?_)
  obtain ⟨e1, x1, rfl, sx⟩ := e
  subst e1
  refine J_w (ws' := wC G a x1 ++ wM G h y) rfl ?_
  refine J_aload_n E dL_law_848 rfl 1 rfl ?_
  refine J_arg E S 1 (by omega) (by decide) dL_law_849 dL_law_850 dL_law_851 dL_law_852 dL_law_853 ?_
  refine J_arg E S 2 (by omega) (by decide) dL_law_854 dL_law_855 dL_law_856 dL_law_857 dL_law_858 ?_
  refine J_arg E S 3 (by omega) (by decide) dL_law_859 dL_law_860 dL_law_861 dL_law_862 dL_law_863 ?_
  refine J_callVi E (As := [.int (xs (i + 1)), .int (xs (i + 2)), .int (xs (i + 3))]) (rest := [.int v]) (ci := 5) (q0 := 0) (wC G a x1) [] hM cl_L_104 yo_X6_burst dL_law_864 rfl rfl rfl (by omega) (by omega) rfl (Nat.le_of_ble_eq_true rfl) (by rw [List.append_nil]) hr (fun u w2 e => ?_)
  obtain ⟨e2, y1, rfl, sy⟩ := e
  subst e2
  refine J_w (ws' := wC G a x1 ++ wM G h y1) (by rw [List.append_nil]) ?_
  exact J_icmp_eq E (tgt := 1433) dL_law_867 (by decide) (fun _ => K x1 y1 (r.sh sx sy)) (fun z => absurd rfl z)
theorem w_turned (E : JE X l G cL_law RL 4 13 484) (S : scr X b L xs) (hi : i + 5 < L) (hr : kc ≤ X.1.2.2.2.1.cells ∧ ks ≤ X.1.2.2.2.1.slots) (hp : PairI l G a h yX5_turned cX5_turned 6 yX6_turned cX6_turned 6 [.int (xs (i + 1)), .int (xs (i + 2))] k x y) (K : ∀ x' y', Rel (k + 1) x' y' → J X G 4 kc ks (wC G a x' ++ wM G h y') (lvL b (a 0) (h 0) i) 1433 []) : J X G 4 kc ks (wC G a x ++ wM G h y) (lvL b (a 0) (h 0) i) 872 [] := by
  obtain ⟨R, x', y', f1, l1, f2, l2, ⟨q1, q2, q3, q4⟩, hC, hM, r⟩ := hp
  refine J_aload_n E dL_law_872 rfl 2 rfl ?_
  refine J_arg E S 1 (by omega) (by decide) dL_law_873 dL_law_874 dL_law_875 dL_law_876 dL_law_877 ?_
  refine J_arg E S 2 (by omega) (by decide) dL_law_878 dL_law_879 dL_law_880 dL_law_881 dL_law_882 ?_
  refine J_callVi E (As := [.int (xs (i + 1)), .int (xs (i + 2))]) (rest := []) (ci := 4) (q0 := 0) [] (wM G h y) hC cl_L_105 yo_X5_turned dL_law_883 rfl rfl rfl (by omega) (by omega) rfl (Nat.le_of_ble_eq_true rfl) rfl hr (fun v w1 e => ?_)
  obtain ⟨e1, x1, rfl, sx⟩ := e
  subst e1
  refine J_w (ws' := wC G a x1 ++ wM G h y) rfl ?_
  refine J_aload_n E dL_law_886 rfl 1 rfl ?_
  refine J_arg E S 1 (by omega) (by decide) dL_law_887 dL_law_888 dL_law_889 dL_law_890 dL_law_891 ?_
  refine J_arg E S 2 (by omega) (by decide) dL_law_892 dL_law_893 dL_law_894 dL_law_895 dL_law_896 ?_
  refine J_callVi E (As := [.int (xs (i + 1)), .int (xs (i + 2))]) (rest := [.int v]) (ci := 5) (q0 := 0) (wC G a x1) [] hM cl_L_108 yo_X6_turned dL_law_897 rfl rfl rfl (by omega) (by omega) rfl (Nat.le_of_ble_eq_true rfl) (by rw [List.append_nil]) hr (fun u w2 e => ?_)
  obtain ⟨e2, y1, rfl, sy⟩ := e
  subst e2
  refine J_w (ws' := wC G a x1 ++ wM G h y1) (by rw [List.append_nil]) ?_
  exact J_icmp_eq E (tgt := 1433) dL_law_900 (by decide) (fun _ => K x1 y1 (r.sh sx sy)) (fun z => absurd rfl z)
theorem w_kinds (E : JE X l G cL_law RL 4 13 484) (S : scr X b L xs) (hi : i + 5 < L) (hr : kc ≤ X.1.2.2.2.1.cells ∧ ks ≤ X.1.2.2.2.1.slots) (hp : PairI l G a h yX5_kinds cX5_kinds 6 yX6_kinds cX6_kinds 6 [.int (xs (i + 1)), .int (xs (i + 2))] k x y) (K : ∀ x' y', Rel (k + 1) x' y' → J X G 4 kc ks (wC G a x' ++ wM G h y') (lvL b (a 0) (h 0) i) 1433 []) : J X G 4 kc ks (wC G a x ++ wM G h y) (lvL b (a 0) (h 0) i) 905 [] := by
  obtain ⟨R, x', y', f1, l1, f2, l2, ⟨q1, q2, q3, q4⟩, hC, hM, r⟩ := hp
  refine J_aload_n E dL_law_905 rfl 2 rfl ?_
  refine J_arg E S 1 (by omega) (by decide) dL_law_906 dL_law_907 dL_law_908 dL_law_909 dL_law_910 ?_
  refine J_arg E S 2 (by omega) (by decide) dL_law_911 dL_law_912 dL_law_913 dL_law_914 dL_law_915 ?_
  refine J_callVi E (As := [.int (xs (i + 1)), .int (xs (i + 2))]) (rest := []) (ci := 4) (q0 := 0) [] (wM G h y) hC cl_L_109 yo_X5_kinds dL_law_916 rfl rfl rfl (by omega) (by omega) rfl (Nat.le_of_ble_eq_true rfl) rfl hr (fun v w1 e => ?_)
  obtain ⟨e1, x1, rfl, sx⟩ := e
  subst e1
  refine J_w (ws' := wC G a x1 ++ wM G h y) rfl ?_
  refine J_aload_n E dL_law_919 rfl 1 rfl ?_
  refine J_arg E S 1 (by omega) (by decide) dL_law_920 dL_law_921 dL_law_922 dL_law_923 dL_law_924 ?_
  refine J_arg E S 2 (by omega) (by decide) dL_law_925 dL_law_926 dL_law_927 dL_law_928 dL_law_929 ?_
  refine J_callVi E (As := [.int (xs (i + 1)), .int (xs (i + 2))]) (rest := [.int v]) (ci := 5) (q0 := 0) (wC G a x1) [] hM cl_L_112 yo_X6_kinds dL_law_930 rfl rfl rfl (by omega) (by omega) rfl (Nat.le_of_ble_eq_true rfl) (by rw [List.append_nil]) hr (fun u w2 e => ?_)
  obtain ⟨e2, y1, rfl, sy⟩ := e
  subst e2
  refine J_w (ws' := wC G a x1 ++ wM G h y1) (by rw [List.append_nil]) ?_
  exact J_icmp_eq E (tgt := 1433) dL_law_933 (by decide) (fun _ => K x1 y1 (r.sh sx sy)) (fun z => absurd rfl z)
theorem w_showers (E : JE X l G cL_law RL 4 13 484) (S : scr X b L xs) (hi : i + 5 < L) (hr : kc ≤ X.1.2.2.2.1.cells ∧ ks ≤ X.1.2.2.2.1.slots) (hp : PairI l G a h yX5_showers cX5_showers 4 yX6_showers cX6_showers 4 [.int (xs (i + 1))] k x y) (K : ∀ x' y', Rel (k + 1) x' y' → J X G 4 kc ks (wC G a x' ++ wM G h y') (lvL b (a 0) (h 0) i) 1433 []) : J X G 4 kc ks (wC G a x ++ wM G h y) (lvL b (a 0) (h 0) i) 938 [] := by
  obtain ⟨R, x', y', f1, l1, f2, l2, ⟨q1, q2, q3, q4⟩, hC, hM, r⟩ := hp
  refine J_aload_n E dL_law_938 rfl 2 rfl ?_
  refine J_arg E S 1 (by omega) (by decide) dL_law_939 dL_law_940 dL_law_941 dL_law_942 dL_law_943 ?_
  refine J_callVi E (As := [.int (xs (i + 1))]) (rest := []) (ci := 4) (q0 := 0) [] (wM G h y) hC cl_L_113 yo_X5_showers dL_law_944 rfl rfl rfl (by omega) (by omega) rfl (Nat.le_of_ble_eq_true rfl) rfl hr (fun v w1 e => ?_)
  obtain ⟨e1, x1, rfl, sx⟩ := e
  subst e1
  refine J_w (ws' := wC G a x1 ++ wM G h y) rfl ?_
  refine J_aload_n E dL_law_947 rfl 1 rfl ?_
  refine J_arg E S 1 (by omega) (by decide) dL_law_948 dL_law_949 dL_law_950 dL_law_951 dL_law_952 ?_
  refine J_callVi E (As := [.int (xs (i + 1))]) (rest := [.int v]) (ci := 5) (q0 := 0) (wC G a x1) [] hM cl_L_116 yo_X6_showers dL_law_953 rfl rfl rfl (by omega) (by omega) rfl (Nat.le_of_ble_eq_true rfl) (by rw [List.append_nil]) hr (fun u w2 e => ?_)
  obtain ⟨e2, y1, rfl, sy⟩ := e
  subst e2
  refine J_w (ws' := wC G a x1 ++ wM G h y1) (by rw [List.append_nil]) ?_
  exact J_icmp_eq E (tgt := 1433) dL_law_956 (by decide) (fun _ => K x1 y1 (r.sh sx sy)) (fun z => absurd rfl z)
theorem w_odds (E : JE X l G cL_law RL 4 13 484) (S : scr X b L xs) (hi : i + 5 < L) (hr : kc ≤ X.1.2.2.2.1.cells ∧ ks ≤ X.1.2.2.2.1.slots) (hp : PairL l G a h yX5_odds cX5_odds 11 yX6_odds cX6_odds 14 [.int (xs (i + 1)), .int (xs (i + 2)), .int (xs (i + 3))] k x y) (K : ∀ x' y', Rel (k + 1) x' y' → J X G 4 kc ks (wC G a x' ++ wM G h y') (lvL b (a 0) (h 0) i) 1433 []) : J X G 4 kc ks (wC G a x ++ wM G h y) (lvL b (a 0) (h 0) i) 961 [] := by
  obtain ⟨R, x', y', f1, l1, f2, l2, ⟨q1, q2, q3, q4⟩, hC, hM, r⟩ := hp
  refine J_aload_n E dL_law_961 rfl 2 rfl ?_
  refine J_arg E S 1 (by omega) (by decide) dL_law_962 dL_law_963 dL_law_964 dL_law_965 dL_law_966 ?_
  refine J_arg E S 2 (by omega) (by decide) dL_law_967 dL_law_968 dL_law_969 dL_law_970 dL_law_971 ?_
  refine J_arg E S 3 (by omega) (by decide) dL_law_972 dL_law_973 dL_law_974 dL_law_975 dL_law_976 ?_
  refine J_callVl E (As := [.int (xs (i + 1)), .int (xs (i + 2)), .int (xs (i + 3))]) (rest := []) (ci := 4) (q0 := 0) [] (wM G h y) hC cl_L_117 yo_X5_odds dL_law_977 rfl rfl rfl (by omega) (by omega) rfl (Nat.le_of_ble_eq_true rfl) rfl hr (fun v w1 e => ?_)
  obtain ⟨e1, x1, rfl, sx⟩ := e
  subst e1
  refine J_w (ws' := wC G a x1 ++ wM G h y) rfl ?_
  refine J_aload_n E dL_law_980 rfl 1 rfl ?_
  refine J_arg E S 1 (by omega) (by decide) dL_law_981 dL_law_982 dL_law_983 dL_law_984 dL_law_985 ?_
  refine J_arg E S 2 (by omega) (by decide) dL_law_986 dL_law_987 dL_law_988 dL_law_989 dL_law_990 ?_
  refine J_arg E S 3 (by omega) (by decide) dL_law_991 dL_law_992 dL_law_993 dL_law_994 dL_law_995 ?_
  refine J_callVl E (As := [.int (xs (i + 1)), .int (xs (i + 2)), .int (xs (i + 3))]) (rest := [.long v]) (ci := 5) (q0 := 0) (wC G a x1) [] hM cl_L_121 yo_X6_odds dL_law_996 rfl rfl rfl (by omega) (by omega) rfl (Nat.le_of_ble_eq_true rfl) (by rw [List.append_nil]) hr (fun u w2 e => ?_)
  obtain ⟨e2, y1, rfl, sy⟩ := e
  subst e2
  refine J_w (ws' := wC G a x1 ++ wM G h y1) (by rw [List.append_nil]) ?_
  refine J_lcmp E dL_law_999 ?_
  have z0 : lg_cmp u u = 0 := by unfold lg_cmp; simp
  rw [z0]
  exact J_if_eq E (tgt := 1433) dL_law_1000 (by decide) (fun _ => K x1 y1 (r.sh sx sy)) (fun z => absurd rfl z)
theorem w_seed (E : JE X l G cL_law RL 4 13 484) (S : scr X b L xs) (hi : i + 5 < L) (hr : kc ≤ X.1.2.2.2.1.cells ∧ ks ≤ X.1.2.2.2.1.slots) (hp : PairI l G a h yX5_seed cX5_seed 3 yX6_seed cX6_seed 2 [.int (xs (i + 1))] k x y) (K : ∀ x' y', Rel (k + 1) x' y' → J X G 4 kc ks (wC G a x' ++ wM G h y') (lvL b (a 0) (h 0) i) 1433 []) : J X G 4 kc ks (wC G a x ++ wM G h y) (lvL b (a 0) (h 0) i) 1005 [] := by
  obtain ⟨R, x', y', f1, l1, f2, l2, ⟨q1, q2, q3, q4⟩, hC, hM, r⟩ := hp
  refine J_aload_n E dL_law_1005 rfl 2 rfl ?_
  refine J_arg E S 1 (by omega) (by decide) dL_law_1006 dL_law_1007 dL_law_1008 dL_law_1009 dL_law_1010 ?_
  refine J_callVi E (As := [.int (xs (i + 1))]) (rest := []) (ci := 4) (q0 := 0) [] (wM G h y) hC cl_L_122 yo_X5_seed dL_law_1011 rfl rfl rfl (by omega) (by omega) rfl (Nat.le_of_ble_eq_true rfl) rfl hr (fun v w1 e => ?_)
  obtain ⟨e1, x1, rfl, sx⟩ := e
  subst e1
  refine J_w (ws' := wC G a x1 ++ wM G h y) rfl ?_
  refine J_aload_n E dL_law_1014 rfl 1 rfl ?_
  refine J_arg E S 1 (by omega) (by decide) dL_law_1015 dL_law_1016 dL_law_1017 dL_law_1018 dL_law_1019 ?_
  refine J_callVi E (As := [.int (xs (i + 1))]) (rest := [.int v]) (ci := 5) (q0 := 0) (wC G a x1) [] hM cl_L_125 yo_X6_seed dL_law_1020 rfl rfl rfl (by omega) (by omega) rfl (Nat.le_of_ble_eq_true rfl) (by rw [List.append_nil]) hr (fun u w2 e => ?_)
  obtain ⟨e2, y1, rfl, sy⟩ := e
  subst e2
  refine J_w (ws' := wC G a x1 ++ wM G h y1) (by rw [List.append_nil]) ?_
  exact J_icmp_eq E (tgt := 1433) dL_law_1023 (by decide) (fun _ => K x1 y1 (r.sh sx sy)) (fun z => absurd rfl z)
theorem w_feed (E : JE X l G cL_law RL 4 13 484) (S : scr X b L xs) (hi : i + 5 < L) (hr : kc ≤ X.1.2.2.2.1.cells ∧ ks ≤ X.1.2.2.2.1.slots) (hp : PairI l G a h yX5_feed cX5_feed 4 yX6_feed cX6_feed 4 [.int (xs (i + 1)), .int (xs (i + 2))] k x y) (K : ∀ x' y', Rel (k + 1) x' y' → J X G 4 kc ks (wC G a x' ++ wM G h y') (lvL b (a 0) (h 0) i) 1433 []) : J X G 4 kc ks (wC G a x ++ wM G h y) (lvL b (a 0) (h 0) i) 1028 [] := by
  obtain ⟨R, x', y', f1, l1, f2, l2, ⟨q1, q2, q3, q4⟩, hC, hM, r⟩ := hp
  refine J_aload_n E dL_law_1028 rfl 2 rfl ?_
  refine J_arg E S 1 (by omega) (by decide) dL_law_1029 dL_law_1030 dL_law_1031 dL_law_1032 dL_law_1033 ?_
  refine J_arg E S 2 (by omega) (by decide) dL_law_1034 dL_law_1035 dL_law_1036 dL_law_1037 dL_law_1038 ?_
  refine J_callVi E (As := [.int (xs (i + 1)), .int (xs (i + 2))]) (rest := []) (ci := 4) (q0 := 0) [] (wM G h y) hC cl_L_126 yo_X5_feed dL_law_1039 rfl rfl rfl (by omega) (by omega) rfl (Nat.le_of_ble_eq_true rfl) rfl hr (fun v w1 e => ?_)
  obtain ⟨e1, x1, rfl, sx⟩ := e
  subst e1
  refine J_w (ws' := wC G a x1 ++ wM G h y) rfl ?_
  refine J_aload_n E dL_law_1042 rfl 1 rfl ?_
  refine J_arg E S 1 (by omega) (by decide) dL_law_1043 dL_law_1044 dL_law_1045 dL_law_1046 dL_law_1047 ?_
  refine J_arg E S 2 (by omega) (by decide) dL_law_1048 dL_law_1049 dL_law_1050 dL_law_1051 dL_law_1052 ?_
  refine J_callVi E (As := [.int (xs (i + 1)), .int (xs (i + 2))]) (rest := [.int v]) (ci := 5) (q0 := 0) (wC G a x1) [] hM cl_L_129 yo_X6_feed dL_law_1053 rfl rfl rfl (by omega) (by omega) rfl (Nat.le_of_ble_eq_true rfl) (by rw [List.append_nil]) hr (fun u w2 e => ?_)
  obtain ⟨e2, y1, rfl, sy⟩ := e
  subst e2
  refine J_w (ws' := wC G a x1 ++ wM G h y1) (by rw [List.append_nil]) ?_
  exact J_icmp_eq E (tgt := 1433) dL_law_1056 (by decide) (fun _ => K x1 y1 (r.sh sx sy)) (fun z => absurd rfl z)
end LAWC
