/-! the law: its cases 19 .. 36 -/
theorem k_drawn {p : Program} {l : Launch} {e : Env} {R : Room} {s : State} {m : MethodId} {args : Array Value} {below : List Frame} {meth : Method} {c : Code} {Q : State → Prop} {D : va_G} {tc tt ad1 ad2 : Nat → Nat} {A : Nat → Prop} {b L j k : Nat} {xs : Nat → Int32} {S : STT} {w1 w2 : va_W} (K : LC p R s m args c D tc tt A b L xs) (hX : XR ad1 tc S k w1) (hM : MR ad2 tc S w2) (hk : k ≤ 600) (hj : j + 5 < L) (go : ∀ (S1 : STT) (v1 v2 : va_W), XR ad1 tc S1 (k + 1) v1 → MR ad2 tc S1 v2 → Ev p l e R s m args below meth c 96 4782 Q D A 4 (v1 ++ v2) 1312 (lvL b (ad1 0) (ad2 0) (nI j)) []) : Ev p l e R s m args below meth c 96 4782 Q D A 4 (w1 ++ w2) 767 (lvL b (ad1 0) (ad2 0) (nI j)) [] := by
  refine E_aload_n K.1 dL_law_767 2 rfl ?_
  refine E_scr K hj 1 dL_law_768 dL_law_769 dL_law_770 dL_law_771 dL_law_772 (by decide +kernel) (by decide) ?_
  refine E_scr K hj 2 dL_law_773 dL_law_774 dL_law_775 dL_law_776 dL_law_777 (by decide +kernel) (by decide) ?_
  refine E_scr K hj 3 dL_law_778 dL_law_779 dL_law_780 dL_law_781 dL_law_782 (by decide +kernel) (by decide) ?_
  refine L_callI K.1 dL_law_783 mv_L_95 [.int (xs (j + 1)), .int (xs (j + 2)), .int (xs (j + 3))] (p_drawn hX hk _ _ _) hX.head hX.len hM.len nd_64 nd_a (by decide) rfl rfl (by decide) (Nat.le_of_ble_eq_true rfl) K.2.2.2.2.2 (fun r1 v1 h1 => ?_)
  obtain ⟨rfl, hX1⟩ := h1
  refine E_aload_n K.1 dL_law_786 1 rfl ?_
  refine E_scr K hj 1 dL_law_787 dL_law_788 dL_law_789 dL_law_790 dL_law_791 (by decide +kernel) (by decide) ?_
  refine E_scr K hj 2 dL_law_792 dL_law_793 dL_law_794 dL_law_795 dL_law_796 (by decide +kernel) (by decide) ?_
  refine E_scr K hj 3 dL_law_797 dL_law_798 dL_law_799 dL_law_800 dL_law_801 (by decide +kernel) (by decide) ?_
  refine L_callI K.1 dL_law_802 mv_L_98 [.int (xs (j + 1)), .int (xs (j + 2)), .int (xs (j + 3))] (q_drawn hM _ _ _) hM.head hM.len hX1.len nd_32 nd_b (by decide) rfl rfl (by decide) (Nat.le_of_ble_eq_true rfl) K.2.2.2.2.2 (fun r2 v2 h2 => ?_)
  obtain ⟨rfl, hM1⟩ := h2
  refine E_icmp_eq K.1 1312 dL_law_805 (by decide) (fun _ => ?_) (fun h => absurd rfl h)
  exact go _ _ _ hX1 hM1
theorem k_lock {p : Program} {l : Launch} {e : Env} {R : Room} {s : State} {m : MethodId} {args : Array Value} {below : List Frame} {meth : Method} {c : Code} {Q : State → Prop} {D : va_G} {tc tt ad1 ad2 : Nat → Nat} {A : Nat → Prop} {b L j k : Nat} {xs : Nat → Int32} {S : STT} {w1 w2 : va_W} (K : LC p R s m args c D tc tt A b L xs) (hX : XR ad1 tc S k w1) (hM : MR ad2 tc S w2) (hk : k ≤ 600) (hj : j + 5 < L) (go : ∀ (S1 : STT) (v1 v2 : va_W), XR ad1 tc S1 (k + 1) v1 → MR ad2 tc S1 v2 → Ev p l e R s m args below meth c 96 4782 Q D A 4 (v1 ++ v2) 1312 (lvL b (ad1 0) (ad2 0) (nI j)) []) : Ev p l e R s m args below meth c 96 4782 Q D A 4 (w1 ++ w2) 810 (lvL b (ad1 0) (ad2 0) (nI j)) [] := by
  refine E_aload_n K.1 dL_law_810 2 rfl ?_
  refine E_scr K hj 1 dL_law_811 dL_law_812 dL_law_813 dL_law_814 dL_law_815 (by decide +kernel) (by decide) ?_
  refine L_callI K.1 dL_law_816 mv_L_99 [.int (xs (j + 1))] (p_lock hX hk _) hX.head hX.len hM.len nd_64 nd_a (by decide) rfl rfl (by decide) (Nat.le_of_ble_eq_true rfl) K.2.2.2.2.2 (fun r1 v1 h1 => ?_)
  obtain ⟨rfl, hX1⟩ := h1
  refine E_aload_n K.1 dL_law_819 1 rfl ?_
  refine E_scr K hj 1 dL_law_820 dL_law_821 dL_law_822 dL_law_823 dL_law_824 (by decide +kernel) (by decide) ?_
  refine L_callI K.1 dL_law_825 mv_L_102 [.int (xs (j + 1))] (q_lock hM _) hM.head hM.len hX1.len nd_32 nd_b (by decide) rfl rfl (by decide) (Nat.le_of_ble_eq_true rfl) K.2.2.2.2.2 (fun r2 v2 h2 => ?_)
  obtain ⟨rfl, hM1⟩ := h2
  refine E_icmp_eq K.1 1312 dL_law_828 (by decide) (fun _ => ?_) (fun h => absurd rfl h)
  exact go _ _ _ hX1 hM1
theorem k_on {p : Program} {l : Launch} {e : Env} {R : Room} {s : State} {m : MethodId} {args : Array Value} {below : List Frame} {meth : Method} {c : Code} {Q : State → Prop} {D : va_G} {tc tt ad1 ad2 : Nat → Nat} {A : Nat → Prop} {b L j k : Nat} {xs : Nat → Int32} {S : STT} {w1 w2 : va_W} (K : LC p R s m args c D tc tt A b L xs) (hX : XR ad1 tc S k w1) (hM : MR ad2 tc S w2) (hk : k ≤ 600) (hj : j + 5 < L) (go : ∀ (S1 : STT) (v1 v2 : va_W), XR ad1 tc S1 (k + 1) v1 → MR ad2 tc S1 v2 → Ev p l e R s m args below meth c 96 4782 Q D A 4 (v1 ++ v2) 1312 (lvL b (ad1 0) (ad2 0) (nI j)) []) : Ev p l e R s m args below meth c 96 4782 Q D A 4 (w1 ++ w2) 833 (lvL b (ad1 0) (ad2 0) (nI j)) [] := by
  refine E_aload_n K.1 dL_law_833 2 rfl ?_
  refine L_callI K.1 dL_law_834 mv_L_103 [] (p_onB hX hk) hX.head hX.len hM.len nd_64 nd_a (by decide) rfl rfl (by decide) (Nat.le_of_ble_eq_true rfl) K.2.2.2.2.2 (fun r1 v1 h1 => ?_)
  obtain ⟨rfl, hX1⟩ := h1
  refine E_aload_n K.1 dL_law_837 1 rfl ?_
  refine L_callI K.1 dL_law_838 mv_L_106 [] (q_on hM) hM.head hM.len hX1.len nd_32 nd_b (by decide) rfl rfl (by decide) (Nat.le_of_ble_eq_true rfl) K.2.2.2.2.2 (fun r2 v2 h2 => ?_)
  obtain ⟨rfl, hM1⟩ := h2
  refine E_icmp_eq K.1 1312 dL_law_841 (by decide) (fun _ => ?_) (fun h => absurd rfl h)
  exact go _ _ _ hX1 hM1
theorem k_led {p : Program} {l : Launch} {e : Env} {R : Room} {s : State} {m : MethodId} {args : Array Value} {below : List Frame} {meth : Method} {c : Code} {Q : State → Prop} {D : va_G} {tc tt ad1 ad2 : Nat → Nat} {A : Nat → Prop} {b L j k : Nat} {xs : Nat → Int32} {S : STT} {w1 w2 : va_W} (K : LC p R s m args c D tc tt A b L xs) (hX : XR ad1 tc S k w1) (hM : MR ad2 tc S w2) (hk : k ≤ 600) (hj : j + 5 < L) (go : ∀ (S1 : STT) (v1 v2 : va_W), XR ad1 tc S1 (k + 1) v1 → MR ad2 tc S1 v2 → Ev p l e R s m args below meth c 96 4782 Q D A 4 (v1 ++ v2) 1312 (lvL b (ad1 0) (ad2 0) (nI j)) []) : Ev p l e R s m args below meth c 96 4782 Q D A 4 (w1 ++ w2) 846 (lvL b (ad1 0) (ad2 0) (nI j)) [] := by
  refine E_aload_n K.1 dL_law_846 2 rfl ?_
  refine E_scr K hj 1 dL_law_847 dL_law_848 dL_law_849 dL_law_850 dL_law_851 (by decide +kernel) (by decide) ?_
  refine L_callI K.1 dL_law_852 mv_L_107 [.int (xs (j + 1))] (p_led hX hk _) hX.head hX.len hM.len nd_64 nd_a (by decide) rfl rfl (by decide) (Nat.le_of_ble_eq_true rfl) K.2.2.2.2.2 (fun r1 v1 h1 => ?_)
  obtain ⟨rfl, hX1⟩ := h1
  refine E_aload_n K.1 dL_law_855 1 rfl ?_
  refine E_scr K hj 1 dL_law_856 dL_law_857 dL_law_858 dL_law_859 dL_law_860 (by decide +kernel) (by decide) ?_
  refine L_callI K.1 dL_law_861 mv_L_110 [.int (xs (j + 1))] (q_led hM _) hM.head hM.len hX1.len nd_32 nd_b (by decide) rfl rfl (by decide) (Nat.le_of_ble_eq_true rfl) K.2.2.2.2.2 (fun r2 v2 h2 => ?_)
  obtain ⟨rfl, hM1⟩ := h2
  refine E_icmp_eq K.1 1312 dL_law_864 (by decide) (fun _ => ?_) (fun h => absurd rfl h)
  exact go _ _ _ hX1 hM1
theorem k_image {p : Program} {l : Launch} {e : Env} {R : Room} {s : State} {m : MethodId} {args : Array Value} {below : List Frame} {meth : Method} {c : Code} {Q : State → Prop} {D : va_G} {tc tt ad1 ad2 : Nat → Nat} {A : Nat → Prop} {b L j k : Nat} {xs : Nat → Int32} {S : STT} {w1 w2 : va_W} (K : LC p R s m args c D tc tt A b L xs) (hX : XR ad1 tc S k w1) (hM : MR ad2 tc S w2) (hk : k ≤ 600) (hj : j + 5 < L) (go : ∀ (S1 : STT) (v1 v2 : va_W), XR ad1 tc S1 (k + 1) v1 → MR ad2 tc S1 v2 → Ev p l e R s m args below meth c 96 4782 Q D A 4 (v1 ++ v2) 1312 (lvL b (ad1 0) (ad2 0) (nI j)) []) : Ev p l e R s m args below meth c 96 4782 Q D A 4 (w1 ++ w2) 869 (lvL b (ad1 0) (ad2 0) (nI j)) [] := by
  refine E_aload_n K.1 dL_law_869 2 rfl ?_
  refine L_callI K.1 dL_law_870 mv_L_111 [] (p_image hX hk) hX.head hX.len hM.len nd_64 nd_a (by decide) rfl rfl (by decide) (Nat.le_of_ble_eq_true rfl) K.2.2.2.2.2 (fun r1 v1 h1 => ?_)
  obtain ⟨rfl, hX1⟩ := h1
  refine E_aload_n K.1 dL_law_873 1 rfl ?_
  refine L_callI K.1 dL_law_874 mv_L_114 [] (q_image hM) hM.head hM.len hX1.len nd_32 nd_b (by decide) rfl rfl (by decide) (Nat.le_of_ble_eq_true rfl) K.2.2.2.2.2 (fun r2 v2 h2 => ?_)
  obtain ⟨rfl, hM1⟩ := h2
  refine E_icmp_eq K.1 1312 dL_law_877 (by decide) (fun _ => ?_) (fun h => absurd rfl h)
  exact go _ _ _ hX1 hM1
theorem k_back {p : Program} {l : Launch} {e : Env} {R : Room} {s : State} {m : MethodId} {args : Array Value} {below : List Frame} {meth : Method} {c : Code} {Q : State → Prop} {D : va_G} {tc tt ad1 ad2 : Nat → Nat} {A : Nat → Prop} {b L j k : Nat} {xs : Nat → Int32} {S : STT} {w1 w2 : va_W} (K : LC p R s m args c D tc tt A b L xs) (hX : XR ad1 tc S k w1) (hM : MR ad2 tc S w2) (hk : k ≤ 600) (hj : j + 5 < L) (go : ∀ (S1 : STT) (v1 v2 : va_W), XR ad1 tc S1 (k + 1) v1 → MR ad2 tc S1 v2 → Ev p l e R s m args below meth c 96 4782 Q D A 4 (v1 ++ v2) 1312 (lvL b (ad1 0) (ad2 0) (nI j)) []) : Ev p l e R s m args below meth c 96 4782 Q D A 4 (w1 ++ w2) 882 (lvL b (ad1 0) (ad2 0) (nI j)) [] := by
  refine E_aload_n K.1 dL_law_882 2 rfl ?_
  refine L_callI K.1 dL_law_883 mv_L_115 [] (p_back hX hk) hX.head hX.len hM.len nd_64 nd_a (by decide) rfl rfl (by decide) (Nat.le_of_ble_eq_true rfl) K.2.2.2.2.2 (fun r1 v1 h1 => ?_)
  obtain ⟨rfl, hX1⟩ := h1
  refine E_aload_n K.1 dL_law_886 1 rfl ?_
  refine L_callI K.1 dL_law_887 mv_L_118 [] (q_back hM) hM.head hM.len hX1.len nd_32 nd_b (by decide) rfl rfl (by decide) (Nat.le_of_ble_eq_true rfl) K.2.2.2.2.2 (fun r2 v2 h2 => ?_)
  obtain ⟨rfl, hM1⟩ := h2
  refine E_icmp_eq K.1 1312 dL_law_890 (by decide) (fun _ => ?_) (fun h => absurd rfl h)
  exact go _ _ _ hX1 hM1
theorem k_undo {p : Program} {l : Launch} {e : Env} {R : Room} {s : State} {m : MethodId} {args : Array Value} {below : List Frame} {meth : Method} {c : Code} {Q : State → Prop} {D : va_G} {tc tt ad1 ad2 : Nat → Nat} {A : Nat → Prop} {b L j k : Nat} {xs : Nat → Int32} {S : STT} {w1 w2 : va_W} (K : LC p R s m args c D tc tt A b L xs) (hX : XR ad1 tc S k w1) (hM : MR ad2 tc S w2) (hk : k ≤ 600) (hj : j + 5 < L) (go : ∀ (S1 : STT) (v1 v2 : va_W), XR ad1 tc S1 (k + 1) v1 → MR ad2 tc S1 v2 → Ev p l e R s m args below meth c 96 4782 Q D A 4 (v1 ++ v2) 1312 (lvL b (ad1 0) (ad2 0) (nI j)) []) : Ev p l e R s m args below meth c 96 4782 Q D A 4 (w1 ++ w2) 895 (lvL b (ad1 0) (ad2 0) (nI j)) [] := by
  refine E_aload_n K.1 dL_law_895 2 rfl ?_
  refine L_callI K.1 dL_law_896 mv_L_119 [] (p_undo hX hk) hX.head hX.len hM.len nd_64 nd_a (by decide) rfl rfl (by decide) (Nat.le_of_ble_eq_true rfl) K.2.2.2.2.2 (fun r1 v1 h1 => ?_)
  obtain ⟨rfl, hX1⟩ := h1
  refine E_aload_n K.1 dL_law_899 1 rfl ?_
  refine L_callI K.1 dL_law_900 mv_L_122 [] (q_undo hM) hM.head hM.len hX1.len nd_32 nd_b (by decide) rfl rfl (by decide) (Nat.le_of_ble_eq_true rfl) K.2.2.2.2.2 (fun r2 v2 h2 => ?_)
  obtain ⟨rfl, hM1⟩ := h2
  refine E_icmp_eq K.1 1312 dL_law_903 (by decide) (fun _ => ?_) (fun h => absurd rfl h)
  exact go _ _ _ hX1 hM1
theorem k_redo {p : Program} {l : Launch} {e : Env} {R : Room} {s : State} {m : MethodId} {args : Array Value} {below : List Frame} {meth : Method} {c : Code} {Q : State → Prop} {D : va_G} {tc tt ad1 ad2 : Nat → Nat} {A : Nat → Prop} {b L j k : Nat} {xs : Nat → Int32} {S : STT} {w1 w2 : va_W} (K : LC p R s m args c D tc tt A b L xs) (hX : XR ad1 tc S k w1) (hM : MR ad2 tc S w2) (hk : k ≤ 600) (hj : j + 5 < L) (go : ∀ (S1 : STT) (v1 v2 : va_W), XR ad1 tc S1 (k + 1) v1 → MR ad2 tc S1 v2 → Ev p l e R s m args below meth c 96 4782 Q D A 4 (v1 ++ v2) 1312 (lvL b (ad1 0) (ad2 0) (nI j)) []) : Ev p l e R s m args below meth c 96 4782 Q D A 4 (w1 ++ w2) 908 (lvL b (ad1 0) (ad2 0) (nI j)) [] := by
  refine E_aload_n K.1 dL_law_908 2 rfl ?_
  refine L_callI K.1 dL_law_909 mv_L_123 [] (p_redo hX hk) hX.head hX.len hM.len nd_64 nd_a (by decide) rfl rfl (by decide) (Nat.le_of_ble_eq_true rfl) K.2.2.2.2.2 (fun r1 v1 h1 => ?_)
  obtain ⟨rfl, hX1⟩ := h1
  refine E_aload_n K.1 dL_law_912 1 rfl ?_
  refine L_callI K.1 dL_law_913 mv_L_126 [] (q_redo hM) hM.head hM.len hX1.len nd_32 nd_b (by decide) rfl rfl (by decide) (Nat.le_of_ble_eq_true rfl) K.2.2.2.2.2 (fun r2 v2 h2 => ?_)
  obtain ⟨rfl, hM1⟩ := h2
  refine E_icmp_eq K.1 1312 dL_law_916 (by decide) (fun _ => ?_) (fun h => absurd rfl h)
  exact go _ _ _ hX1 hM1
theorem k_body {p : Program} {l : Launch} {e : Env} {R : Room} {s : State} {m : MethodId} {args : Array Value} {below : List Frame} {meth : Method} {c : Code} {Q : State → Prop} {D : va_G} {tc tt ad1 ad2 : Nat → Nat} {A : Nat → Prop} {b L j k : Nat} {xs : Nat → Int32} {S : STT} {w1 w2 : va_W} (K : LC p R s m args c D tc tt A b L xs) (hX : XR ad1 tc S k w1) (hM : MR ad2 tc S w2) (hk : k ≤ 600) (hj : j + 5 < L) (go : ∀ (S1 : STT) (v1 v2 : va_W), XR ad1 tc S1 (k + 1) v1 → MR ad2 tc S1 v2 → Ev p l e R s m args below meth c 96 4782 Q D A 4 (v1 ++ v2) 1312 (lvL b (ad1 0) (ad2 0) (nI j)) []) : Ev p l e R s m args below meth c 96 4782 Q D A 4 (w1 ++ w2) 921 (lvL b (ad1 0) (ad2 0) (nI j)) [] := by
  refine E_aload_n K.1 dL_law_921 2 rfl ?_
  refine E_scr K hj 1 dL_law_922 dL_law_923 dL_law_924 dL_law_925 dL_law_926 (by decide +kernel) (by decide) ?_
  refine L_callI K.1 dL_law_927 mv_L_127 [.int (xs (j + 1))] (p_body hX hk _) hX.head hX.len hM.len nd_64 nd_a (by decide) rfl rfl (by decide) (Nat.le_of_ble_eq_true rfl) K.2.2.2.2.2 (fun r1 v1 h1 => ?_)
  obtain ⟨rfl, hX1⟩ := h1
  refine E_aload_n K.1 dL_law_930 1 rfl ?_
  refine E_scr K hj 1 dL_law_931 dL_law_932 dL_law_933 dL_law_934 dL_law_935 (by decide +kernel) (by decide) ?_
  refine L_callI K.1 dL_law_936 mv_L_130 [.int (xs (j + 1))] (q_body hM _) hM.head hM.len hX1.len nd_32 nd_b (by decide) rfl rfl (by decide) (Nat.le_of_ble_eq_true rfl) K.2.2.2.2.2 (fun r2 v2 h2 => ?_)
  obtain ⟨rfl, hM1⟩ := h2
  refine E_icmp_eq K.1 1312 dL_law_939 (by decide) (fun _ => ?_) (fun h => absurd rfl h)
  exact go _ _ _ hX1 hM1
theorem k_act {p : Program} {l : Launch} {e : Env} {R : Room} {s : State} {m : MethodId} {args : Array Value} {below : List Frame} {meth : Method} {c : Code} {Q : State → Prop} {D : va_G} {tc tt ad1 ad2 : Nat → Nat} {A : Nat → Prop} {b L j k : Nat} {xs : Nat → Int32} {S : STT} {w1 w2 : va_W} (K : LC p R s m args c D tc tt A b L xs) (hX : XR ad1 tc S k w1) (hM : MR ad2 tc S w2) (hk : k ≤ 600) (hj : j + 5 < L) (go : ∀ (S1 : STT) (v1 v2 : va_W), XR ad1 tc S1 (k + 1) v1 → MR ad2 tc S1 v2 → Ev p l e R s m args below meth c 96 4782 Q D A 4 (v1 ++ v2) 1312 (lvL b (ad1 0) (ad2 0) (nI j)) []) : Ev p l e R s m args below meth c 96 4782 Q D A 4 (w1 ++ w2) 944 (lvL b (ad1 0) (ad2 0) (nI j)) [] := by
  refine E_aload_n K.1 dL_law_944 2 rfl ?_
  refine E_scr K hj 1 dL_law_945 dL_law_946 dL_law_947 dL_law_948 dL_law_949 (by decide +kernel) (by decide) ?_
  refine E_scr K hj 2 dL_law_950 dL_law_951 dL_law_952 dL_law_953 dL_law_954 (by decide +kernel) (by decide) ?_
  refine E_scr K hj 3 dL_law_955 dL_law_956 dL_law_957 dL_law_958 dL_law_959 (by decide +kernel) (by decide) ?_
  refine L_callI K.1 dL_law_960 mv_L_131 [.int (xs (j + 1)), .int (xs (j + 2)), .int (xs (j + 3))] (p_act hX hk _ _ _) hX.head hX.len hM.len nd_64 nd_a (by decide) rfl rfl (by decide) (Nat.le_of_ble_eq_true rfl) K.2.2.2.2.2 (fun r1 v1 h1 => ?_)
  obtain ⟨rfl, hX1⟩ := h1
  refine E_aload_n K.1 dL_law_963 1 rfl ?_
  refine E_scr K hj 1 dL_law_964 dL_law_965 dL_law_966 dL_law_967 dL_law_968 (by decide +kernel) (by decide) ?_
  refine E_scr K hj 2 dL_law_969 dL_law_970 dL_law_971 dL_law_972 dL_law_973 (by decide +kernel) (by decide) ?_
  refine E_scr K hj 3 dL_law_974 dL_law_975 dL_law_976 dL_law_977 dL_law_978 (by decide +kernel) (by decide) ?_
  refine L_callI K.1 dL_law_979 mv_L_134 [.int (xs (j + 1)), .int (xs (j + 2)), .int (xs (j + 3))] (q_act hM _ _ _) hM.head hM.len hX1.len nd_32 nd_b (by decide) rfl rfl (by decide) (Nat.le_of_ble_eq_true rfl) K.2.2.2.2.2 (fun r2 v2 h2 => ?_)
  obtain ⟨rfl, hM1⟩ := h2
  refine E_icmp_eq K.1 1312 dL_law_982 (by decide) (fun _ => ?_) (fun h => absurd rfl h)
  exact go _ _ _ hX1 hM1
theorem k_trace {p : Program} {l : Launch} {e : Env} {R : Room} {s : State} {m : MethodId} {args : Array Value} {below : List Frame} {meth : Method} {c : Code} {Q : State → Prop} {D : va_G} {tc tt ad1 ad2 : Nat → Nat} {A : Nat → Prop} {b L j k : Nat} {xs : Nat → Int32} {S : STT} {w1 w2 : va_W} (K : LC p R s m args c D tc tt A b L xs) (hX : XR ad1 tc S k w1) (hM : MR ad2 tc S w2) (hk : k ≤ 600) (hj : j + 5 < L) (go : ∀ (S1 : STT) (v1 v2 : va_W), XR ad1 tc S1 (k + 1) v1 → MR ad2 tc S1 v2 → Ev p l e R s m args below meth c 96 4782 Q D A 4 (v1 ++ v2) 1312 (lvL b (ad1 0) (ad2 0) (nI j)) []) : Ev p l e R s m args below meth c 96 4782 Q D A 4 (w1 ++ w2) 987 (lvL b (ad1 0) (ad2 0) (nI j)) [] := by
  refine E_aload_n K.1 dL_law_987 2 rfl ?_
  refine E_scr K hj 1 dL_law_988 dL_law_989 dL_law_990 dL_law_991 dL_law_992 (by decide +kernel) (by decide) ?_
  refine L_callI K.1 dL_law_993 mv_L_135 [.int (xs (j + 1))] (p_trace hX hk _) hX.head hX.len hM.len nd_64 nd_a (by decide) rfl rfl (by decide) (Nat.le_of_ble_eq_true rfl) K.2.2.2.2.2 (fun r1 v1 h1 => ?_)
  obtain ⟨rfl, hX1⟩ := h1
  refine E_aload_n K.1 dL_law_996 1 rfl ?_
  refine E_scr K hj 1 dL_law_997 dL_law_998 dL_law_999 dL_law_1000 dL_law_1001 (by decide +kernel) (by decide) ?_
  refine L_callI K.1 dL_law_1002 mv_L_138 [.int (xs (j + 1))] (q_trace hM _) hM.head hM.len hX1.len nd_32 nd_b (by decide) rfl rfl (by decide) (Nat.le_of_ble_eq_true rfl) K.2.2.2.2.2 (fun r2 v2 h2 => ?_)
  obtain ⟨rfl, hM1⟩ := h2
  refine E_icmp_eq K.1 1312 dL_law_1005 (by decide) (fun _ => ?_) (fun h => absurd rfl h)
  exact go _ _ _ hX1 hM1
theorem k_keep {p : Program} {l : Launch} {e : Env} {R : Room} {s : State} {m : MethodId} {args : Array Value} {below : List Frame} {meth : Method} {c : Code} {Q : State → Prop} {D : va_G} {tc tt ad1 ad2 : Nat → Nat} {A : Nat → Prop} {b L j k : Nat} {xs : Nat → Int32} {S : STT} {w1 w2 : va_W} (K : LC p R s m args c D tc tt A b L xs) (hX : XR ad1 tc S k w1) (hM : MR ad2 tc S w2) (hk : k ≤ 600) (hj : j + 5 < L) (go : ∀ (S1 : STT) (v1 v2 : va_W), XR ad1 tc S1 (k + 1) v1 → MR ad2 tc S1 v2 → Ev p l e R s m args below meth c 96 4782 Q D A 4 (v1 ++ v2) 1312 (lvL b (ad1 0) (ad2 0) (nI j)) []) : Ev p l e R s m args below meth c 96 4782 Q D A 4 (w1 ++ w2) 1010 (lvL b (ad1 0) (ad2 0) (nI j)) [] := by
  refine E_aload_n K.1 dL_law_1010 2 rfl ?_
  refine E_scr K hj 1 dL_law_1011 dL_law_1012 dL_law_1013 dL_law_1014 dL_law_1015 (by decide +kernel) (by decide) ?_
  refine E_scr K hj 2 dL_law_1016 dL_law_1017 dL_law_1018 dL_law_1019 dL_law_1020 (by decide +kernel) (by decide) ?_
  refine L_callI K.1 dL_law_1021 mv_L_139 [.int (xs (j + 1)), .int (xs (j + 2))] (p_keep hX hk _ _) hX.head hX.len hM.len nd_64 nd_a (by decide) rfl rfl (by decide) (Nat.le_of_ble_eq_true rfl) K.2.2.2.2.2 (fun r1 v1 h1 => ?_)
  obtain ⟨rfl, hX1⟩ := h1
  refine E_aload_n K.1 dL_law_1024 1 rfl ?_
  refine E_scr K hj 1 dL_law_1025 dL_law_1026 dL_law_1027 dL_law_1028 dL_law_1029 (by decide +kernel) (by decide) ?_
  refine E_scr K hj 2 dL_law_1030 dL_law_1031 dL_law_1032 dL_law_1033 dL_law_1034 (by decide +kernel) (by decide) ?_
  refine L_callI K.1 dL_law_1035 mv_L_142 [.int (xs (j + 1)), .int (xs (j + 2))] (q_keep hM _ _) hM.head hM.len hX1.len nd_32 nd_b (by decide) rfl rfl (by decide) (Nat.le_of_ble_eq_true rfl) K.2.2.2.2.2 (fun r2 v2 h2 => ?_)
  obtain ⟨rfl, hM1⟩ := h2
  refine E_icmp_eq K.1 1312 dL_law_1038 (by decide) (fun _ => ?_) (fun h => absurd rfl h)
  exact go _ _ _ hX1 hM1
theorem k_row {p : Program} {l : Launch} {e : Env} {R : Room} {s : State} {m : MethodId} {args : Array Value} {below : List Frame} {meth : Method} {c : Code} {Q : State → Prop} {D : va_G} {tc tt ad1 ad2 : Nat → Nat} {A : Nat → Prop} {b L j k : Nat} {xs : Nat → Int32} {S : STT} {w1 w2 : va_W} (K : LC p R s m args c D tc tt A b L xs) (hX : XR ad1 tc S k w1) (hM : MR ad2 tc S w2) (hk : k ≤ 600) (hj : j + 5 < L) (go : ∀ (S1 : STT) (v1 v2 : va_W), XR ad1 tc S1 (k + 1) v1 → MR ad2 tc S1 v2 → Ev p l e R s m args below meth c 96 4782 Q D A 4 (v1 ++ v2) 1312 (lvL b (ad1 0) (ad2 0) (nI j)) []) : Ev p l e R s m args below meth c 96 4782 Q D A 4 (w1 ++ w2) 1043 (lvL b (ad1 0) (ad2 0) (nI j)) [] := by
  refine E_aload_n K.1 dL_law_1043 2 rfl ?_
  refine E_scr K hj 1 dL_law_1044 dL_law_1045 dL_law_1046 dL_law_1047 dL_law_1048 (by decide +kernel) (by decide) ?_
  refine E_scr K hj 2 dL_law_1049 dL_law_1050 dL_law_1051 dL_law_1052 dL_law_1053 (by decide +kernel) (by decide) ?_
  refine E_scr K hj 3 dL_law_1054 dL_law_1055 dL_law_1056 dL_law_1057 dL_law_1058 (by decide +kernel) (by decide) ?_
  refine L_callI K.1 dL_law_1059 mv_L_143 [.int (xs (j + 1)), .int (xs (j + 2)), .int (xs (j + 3))] (p_row hX hk _ _ _) hX.head hX.len hM.len nd_64 nd_a (by decide) rfl rfl (by decide) (Nat.le_of_ble_eq_true rfl) K.2.2.2.2.2 (fun r1 v1 h1 => ?_)
  obtain ⟨rfl, hX1⟩ := h1
  refine E_aload_n K.1 dL_law_1062 1 rfl ?_
  refine E_scr K hj 1 dL_law_1063 dL_law_1064 dL_law_1065 dL_law_1066 dL_law_1067 (by decide +kernel) (by decide) ?_
  refine E_scr K hj 2 dL_law_1068 dL_law_1069 dL_law_1070 dL_law_1071 dL_law_1072 (by decide +kernel) (by decide) ?_
  refine E_scr K hj 3 dL_law_1073 dL_law_1074 dL_law_1075 dL_law_1076 dL_law_1077 (by decide +kernel) (by decide) ?_
  refine L_callI K.1 dL_law_1078 mv_L_146 [.int (xs (j + 1)), .int (xs (j + 2)), .int (xs (j + 3))] (q_row hM _ _ _) hM.head hM.len hX1.len nd_32 nd_b (by decide) rfl rfl (by decide) (Nat.le_of_ble_eq_true rfl) K.2.2.2.2.2 (fun r2 v2 h2 => ?_)
  obtain ⟨rfl, hM1⟩ := h2
  refine E_icmp_eq K.1 1312 dL_law_1081 (by decide) (fun _ => ?_) (fun h => absurd rfl h)
  exact go _ _ _ hX1 hM1
theorem k_put {p : Program} {l : Launch} {e : Env} {R : Room} {s : State} {m : MethodId} {args : Array Value} {below : List Frame} {meth : Method} {c : Code} {Q : State → Prop} {D : va_G} {tc tt ad1 ad2 : Nat → Nat} {A : Nat → Prop} {b L j k : Nat} {xs : Nat → Int32} {S : STT} {w1 w2 : va_W} (K : LC p R s m args c D tc tt A b L xs) (hX : XR ad1 tc S k w1) (hM : MR ad2 tc S w2) (hk : k ≤ 600) (hj : j + 5 < L) (go : ∀ (S1 : STT) (v1 v2 : va_W), XR ad1 tc S1 (k + 1) v1 → MR ad2 tc S1 v2 → Ev p l e R s m args below meth c 96 4782 Q D A 4 (v1 ++ v2) 1312 (lvL b (ad1 0) (ad2 0) (nI j)) []) : Ev p l e R s m args below meth c 96 4782 Q D A 4 (w1 ++ w2) 1086 (lvL b (ad1 0) (ad2 0) (nI j)) [] := by
  refine E_aload_n K.1 dL_law_1086 2 rfl ?_
  refine E_scr K hj 1 dL_law_1087 dL_law_1088 dL_law_1089 dL_law_1090 dL_law_1091 (by decide +kernel) (by decide) ?_
  refine E_scr K hj 2 dL_law_1092 dL_law_1093 dL_law_1094 dL_law_1095 dL_law_1096 (by decide +kernel) (by decide) ?_
  refine E_scr K hj 3 dL_law_1097 dL_law_1098 dL_law_1099 dL_law_1100 dL_law_1101 (by decide +kernel) (by decide) ?_
  refine E_i2l K.1 dL_law_1102 ?_
  refine E_bipush (v := 32) K.1 dL_law_1103 (by decide +kernel) ?_
  refine E_lshl K.1 dL_law_1105 ?_
  refine E_scr K hj 4 dL_law_1106 dL_law_1107 dL_law_1108 dL_law_1109 dL_law_1110 (by decide +kernel) (by decide) ?_
  refine E_i2l K.1 dL_law_1111 ?_
  refine E_ldc2 K.1 k_L_147 dL_law_1112 ?_
  refine E_land K.1 dL_law_1115 ?_
  refine E_lor K.1 dL_law_1116 ?_
  refine L_callI K.1 dL_law_1117 mv_L_149 [.int (xs (j + 1)), .int (xs (j + 2)), .long ((((xs (j + 3)).toInt64 <<< ((32 : Int32).toInt64 &&& 63)) ||| ((xs (j + 4)).toInt64 &&& 4294967295)))] (p_put hX hk _ _ _) hX.head hX.len hM.len nd_64 nd_a (by decide) rfl rfl (by decide) (Nat.le_of_ble_eq_true rfl) K.2.2.2.2.2 (fun r1 v1 h1 => ?_)
  obtain ⟨rfl, hX1⟩ := h1
  refine E_aload_n K.1 dL_law_1120 1 rfl ?_
  refine E_scr K hj 1 dL_law_1121 dL_law_1122 dL_law_1123 dL_law_1124 dL_law_1125 (by decide +kernel) (by decide) ?_
  refine E_scr K hj 2 dL_law_1126 dL_law_1127 dL_law_1128 dL_law_1129 dL_law_1130 (by decide +kernel) (by decide) ?_
  refine E_scr K hj 3 dL_law_1131 dL_law_1132 dL_law_1133 dL_law_1134 dL_law_1135 (by decide +kernel) (by decide) ?_
  refine E_i2l K.1 dL_law_1136 ?_
  refine E_bipush (v := 32) K.1 dL_law_1137 (by decide +kernel) ?_
  refine E_lshl K.1 dL_law_1139 ?_
  refine E_scr K hj 4 dL_law_1140 dL_law_1141 dL_law_1142 dL_law_1143 dL_law_1144 (by decide +kernel) (by decide) ?_
  refine E_i2l K.1 dL_law_1145 ?_
  refine E_ldc2 K.1 k_L_147 dL_law_1146 ?_
  refine E_land K.1 dL_law_1149 ?_
  refine E_lor K.1 dL_law_1150 ?_
  refine L_callI K.1 dL_law_1151 mv_L_153 [.int (xs (j + 1)), .int (xs (j + 2)), .long ((((xs (j + 3)).toInt64 <<< ((32 : Int32).toInt64 &&& 63)) ||| ((xs (j + 4)).toInt64 &&& 4294967295)))] (q_put hM _ _ _) hM.head hM.len hX1.len nd_32 nd_b (by decide) rfl rfl (by decide) (Nat.le_of_ble_eq_true rfl) K.2.2.2.2.2 (fun r2 v2 h2 => ?_)
  obtain ⟨rfl, hM1⟩ := h2
  refine E_icmp_eq K.1 1312 dL_law_1154 (by decide) (fun _ => ?_) (fun h => absurd rfl h)
  exact go _ _ _ hX1 hM1
theorem k_element {p : Program} {l : Launch} {e : Env} {R : Room} {s : State} {m : MethodId} {args : Array Value} {below : List Frame} {meth : Method} {c : Code} {Q : State → Prop} {D : va_G} {tc tt ad1 ad2 : Nat → Nat} {A : Nat → Prop} {b L j k : Nat} {xs : Nat → Int32} {S : STT} {w1 w2 : va_W} (K : LC p R s m args c D tc tt A b L xs) (hX : XR ad1 tc S k w1) (hM : MR ad2 tc S w2) (hk : k ≤ 600) (hj : j + 5 < L) (go : ∀ (S1 : STT) (v1 v2 : va_W), XR ad1 tc S1 (k + 1) v1 → MR ad2 tc S1 v2 → Ev p l e R s m args below meth c 96 4782 Q D A 4 (v1 ++ v2) 1312 (lvL b (ad1 0) (ad2 0) (nI j)) []) : Ev p l e R s m args below meth c 96 4782 Q D A 4 (w1 ++ w2) 1159 (lvL b (ad1 0) (ad2 0) (nI j)) [] := by
  refine E_aload_n K.1 dL_law_1159 2 rfl ?_
  refine E_scr K hj 1 dL_law_1160 dL_law_1161 dL_law_1162 dL_law_1163 dL_law_1164 (by decide +kernel) (by decide) ?_
  refine E_scr K hj 2 dL_law_1165 dL_law_1166 dL_law_1167 dL_law_1168 dL_law_1169 (by decide +kernel) (by decide) ?_
  refine L_callL K.1 dL_law_1170 mv_L_154 [.int (xs (j + 1)), .int (xs (j + 2))] (p_element hX hk _ _) hX.head hX.len hM.len nd_64 nd_a (by decide) rfl rfl (by decide) (Nat.le_of_ble_eq_true rfl) K.2.2.2.2.2 (fun r1 v1 h1 => ?_)
  obtain ⟨rfl, hX1⟩ := h1
  refine E_aload_n K.1 dL_law_1173 1 rfl ?_
  refine E_scr K hj 1 dL_law_1174 dL_law_1175 dL_law_1176 dL_law_1177 dL_law_1178 (by decide +kernel) (by decide) ?_
  refine E_scr K hj 2 dL_law_1179 dL_law_1180 dL_law_1181 dL_law_1182 dL_law_1183 (by decide +kernel) (by decide) ?_
  refine L_callL K.1 dL_law_1184 mv_L_157 [.int (xs (j + 1)), .int (xs (j + 2))] (q_element hM _ _) hM.head hM.len hX1.len nd_32 nd_b (by decide) rfl rfl (by decide) (Nat.le_of_ble_eq_true rfl) K.2.2.2.2.2 (fun r2 v2 h2 => ?_)
  obtain ⟨rfl, hM1⟩ := h2
  refine E_lcmp K.1 dL_law_1187 ?_
  rw [lg_cmp_self]
  refine E_if_eq K.1 1312 dL_law_1188 (by decide) (fun _ => ?_) (fun h => absurd rfl h)
  exact go _ _ _ hX1 hM1
theorem k_shift {p : Program} {l : Launch} {e : Env} {R : Room} {s : State} {m : MethodId} {args : Array Value} {below : List Frame} {meth : Method} {c : Code} {Q : State → Prop} {D : va_G} {tc tt ad1 ad2 : Nat → Nat} {A : Nat → Prop} {b L j k : Nat} {xs : Nat → Int32} {S : STT} {w1 w2 : va_W} (K : LC p R s m args c D tc tt A b L xs) (hX : XR ad1 tc S k w1) (hM : MR ad2 tc S w2) (hk : k ≤ 600) (hj : j + 5 < L) (go : ∀ (S1 : STT) (v1 v2 : va_W), XR ad1 tc S1 (k + 1) v1 → MR ad2 tc S1 v2 → Ev p l e R s m args below meth c 96 4782 Q D A 4 (v1 ++ v2) 1312 (lvL b (ad1 0) (ad2 0) (nI j)) []) : Ev p l e R s m args below meth c 96 4782 Q D A 4 (w1 ++ w2) 1193 (lvL b (ad1 0) (ad2 0) (nI j)) [] := by
  refine E_aload_n K.1 dL_law_1193 2 rfl ?_
  refine E_scr K hj 1 dL_law_1194 dL_law_1195 dL_law_1196 dL_law_1197 dL_law_1198 (by decide +kernel) (by decide) ?_
  refine E_scr K hj 2 dL_law_1199 dL_law_1200 dL_law_1201 dL_law_1202 dL_law_1203 (by decide +kernel) (by decide) ?_
  refine E_scr K hj 3 dL_law_1204 dL_law_1205 dL_law_1206 dL_law_1207 dL_law_1208 (by decide +kernel) (by decide) ?_
  refine E_scr K hj 4 dL_law_1209 dL_law_1210 dL_law_1211 dL_law_1212 dL_law_1213 (by decide +kernel) (by decide) ?_
  refine E_scr K hj 5 dL_law_1214 dL_law_1215 dL_law_1216 dL_law_1217 dL_law_1218 (by decide +kernel) (by decide) ?_
  refine L_callI K.1 dL_law_1219 mv_L_158 [.int (xs (j + 1)), .int (xs (j + 2)), .int (xs (j + 3)), .int (xs (j + 4)), .int (xs (j + 5))] (p_shift hX hk _ _ _ _ _) hX.head hX.len hM.len nd_64 nd_a (by decide) rfl rfl (by decide) (Nat.le_of_ble_eq_true rfl) K.2.2.2.2.2 (fun r1 v1 h1 => ?_)
  obtain ⟨rfl, hX1⟩ := h1
  refine E_aload_n K.1 dL_law_1222 1 rfl ?_
  refine E_scr K hj 1 dL_law_1223 dL_law_1224 dL_law_1225 dL_law_1226 dL_law_1227 (by decide +kernel) (by decide) ?_
  refine E_scr K hj 2 dL_law_1228 dL_law_1229 dL_law_1230 dL_law_1231 dL_law_1232 (by decide +kernel) (by decide) ?_
  refine E_scr K hj 3 dL_law_1233 dL_law_1234 dL_law_1235 dL_law_1236 dL_law_1237 (by decide +kernel) (by decide) ?_
  refine E_scr K hj 4 dL_law_1238 dL_law_1239 dL_law_1240 dL_law_1241 dL_law_1242 (by decide +kernel) (by decide) ?_
  refine E_scr K hj 5 dL_law_1243 dL_law_1244 dL_law_1245 dL_law_1246 dL_law_1247 (by decide +kernel) (by decide) ?_
  refine L_callI K.1 dL_law_1248 mv_L_162 [.int (xs (j + 1)), .int (xs (j + 2)), .int (xs (j + 3)), .int (xs (j + 4)), .int (xs (j + 5))] (q_shift hM _ _ _ _ _) hM.head hM.len hX1.len nd_32 nd_b (by decide) rfl rfl (by decide) (Nat.le_of_ble_eq_true rfl) K.2.2.2.2.2 (fun r2 v2 h2 => ?_)
  obtain ⟨rfl, hM1⟩ := h2
  refine E_icmp_eq K.1 1312 dL_law_1251 (by decide) (fun _ => ?_) (fun h => absurd rfl h)
  exact go _ _ _ hX1 hM1
theorem k_taken {p : Program} {l : Launch} {e : Env} {R : Room} {s : State} {m : MethodId} {args : Array Value} {below : List Frame} {meth : Method} {c : Code} {Q : State → Prop} {D : va_G} {tc tt ad1 ad2 : Nat → Nat} {A : Nat → Prop} {b L j k : Nat} {xs : Nat → Int32} {S : STT} {w1 w2 : va_W} (K : LC p R s m args c D tc tt A b L xs) (hX : XR ad1 tc S k w1) (hM : MR ad2 tc S w2) (hk : k ≤ 600) (hj : j + 5 < L) (go : ∀ (S1 : STT) (v1 v2 : va_W), XR ad1 tc S1 (k + 1) v1 → MR ad2 tc S1 v2 → Ev p l e R s m args below meth c 96 4782 Q D A 4 (v1 ++ v2) 1312 (lvL b (ad1 0) (ad2 0) (nI j)) []) : Ev p l e R s m args below meth c 96 4782 Q D A 4 (w1 ++ w2) 1256 (lvL b (ad1 0) (ad2 0) (nI j)) [] := by
  refine E_aload_n K.1 dL_law_1256 2 rfl ?_
  refine E_scr K hj 1 dL_law_1257 dL_law_1258 dL_law_1259 dL_law_1260 dL_law_1261 (by decide +kernel) (by decide) ?_
  refine E_scr K hj 2 dL_law_1262 dL_law_1263 dL_law_1264 dL_law_1265 dL_law_1266 (by decide +kernel) (by decide) ?_
  refine L_callI K.1 dL_law_1267 mv_L_163 [.int (xs (j + 1)), .int (xs (j + 2))] (p_taken hX hk _ _) hX.head hX.len hM.len nd_64 nd_a (by decide) rfl rfl (by decide) (Nat.le_of_ble_eq_true rfl) K.2.2.2.2.2 (fun r1 v1 h1 => ?_)
  obtain ⟨rfl, hX1⟩ := h1
  refine E_aload_n K.1 dL_law_1270 1 rfl ?_
  refine E_scr K hj 1 dL_law_1271 dL_law_1272 dL_law_1273 dL_law_1274 dL_law_1275 (by decide +kernel) (by decide) ?_
  refine E_scr K hj 2 dL_law_1276 dL_law_1277 dL_law_1278 dL_law_1279 dL_law_1280 (by decide +kernel) (by decide) ?_
  refine L_callI K.1 dL_law_1281 mv_L_166 [.int (xs (j + 1)), .int (xs (j + 2))] (q_taken hM _ _) hM.head hM.len hX1.len nd_32 nd_b (by decide) rfl rfl (by decide) (Nat.le_of_ble_eq_true rfl) K.2.2.2.2.2 (fun r2 v2 h2 => ?_)
  obtain ⟨rfl, hM1⟩ := h2
  refine E_icmp_eq K.1 1312 dL_law_1284 (by decide) (fun _ => ?_) (fun h => absurd rfl h)
  exact go _ _ _ hX1 hM1
theorem k_count {p : Program} {l : Launch} {e : Env} {R : Room} {s : State} {m : MethodId} {args : Array Value} {below : List Frame} {meth : Method} {c : Code} {Q : State → Prop} {D : va_G} {tc tt ad1 ad2 : Nat → Nat} {A : Nat → Prop} {b L j k : Nat} {xs : Nat → Int32} {S : STT} {w1 w2 : va_W} (K : LC p R s m args c D tc tt A b L xs) (hX : XR ad1 tc S k w1) (hM : MR ad2 tc S w2) (hk : k ≤ 600) (hj : j + 5 < L) (go : ∀ (S1 : STT) (v1 v2 : va_W), XR ad1 tc S1 (k + 1) v1 → MR ad2 tc S1 v2 → Ev p l e R s m args below meth c 96 4782 Q D A 4 (v1 ++ v2) 1312 (lvL b (ad1 0) (ad2 0) (nI j)) []) : Ev p l e R s m args below meth c 96 4782 Q D A 4 (w1 ++ w2) 1289 (lvL b (ad1 0) (ad2 0) (nI j)) [] := by
  refine E_aload_n K.1 dL_law_1289 2 rfl ?_
  refine E_scr K hj 1 dL_law_1290 dL_law_1291 dL_law_1292 dL_law_1293 dL_law_1294 (by decide +kernel) (by decide) ?_
  refine L_callI K.1 dL_law_1295 mv_L_167 [.int (xs (j + 1))] (p_count hX hk _) hX.head hX.len hM.len nd_64 nd_a (by decide) rfl rfl (by decide) (Nat.le_of_ble_eq_true rfl) K.2.2.2.2.2 (fun r1 v1 h1 => ?_)
  obtain ⟨rfl, hX1⟩ := h1
  refine E_aload_n K.1 dL_law_1298 1 rfl ?_
  refine E_scr K hj 1 dL_law_1299 dL_law_1300 dL_law_1301 dL_law_1302 dL_law_1303 (by decide +kernel) (by decide) ?_
  refine L_callI K.1 dL_law_1304 mv_L_170 [.int (xs (j + 1))] (q_count hM _) hM.head hM.len hX1.len nd_32 nd_b (by decide) rfl rfl (by decide) (Nat.le_of_ble_eq_true rfl) K.2.2.2.2.2 (fun r2 v2 h2 => ?_)
  obtain ⟨rfl, hM1⟩ := h2
  refine E_icmp_eq K.1 1312 dL_law_1307 (by decide) (fun _ => ?_) (fun h => absurd rfl h)
  exact go _ _ _ hX1 hM1
