set_option maxRecDepth 100000 in
set_option maxHeartbeats 4000000 in
theorem lp_X6_fe {sh : SH} {mr : MR} (hB : ba_c sh mr) (p1 : Int32) (i b : Nat) (hi : i < 7) (hb : b < 10) (nd : Nat → Nat) (dr : Nat) (c : Nat → Nat) (hnd : ∀ k, k < 5 → nd k ≤ 50) (hdr : dr ≤ 30) (hcb : ∀ k, k < 5 → c k ≤ 100000) {Po : PO} (mi : MI) (h47 : mi 47 i = nI b) (h45 : ∀ k, k < 5 → mi 45 (5 * b + k) = nI (nd k)) (h46 : mi 46 b = nI dr) (hk : ∀ m : MI, (∀ a e, a ≠ 49 → m a e = mi a e) → (∀ k, k < 5 → m 49 k = nI (ck nd dr c k)) → EV none 0 0 0 mX6_findEnds 118 [some (pv_r 29), some (pv_i p1), some (pv_i (nI i)), some (pv_i (nI (lf nd dr c 5))), some (pv_i (nI 5))] [] sh m mr Po) : ∀ k, k ≤ 5 → ∀ m : MI, (∀ a e, a ≠ 49 → m a e = mi a e) → (∀ j, j < k → m 49 j = nI (ck nd dr c j)) → (∀ j, k ≤ j → j < 5 → m 49 j = nI (c j)) → EV none 0 0 0 mX6_findEnds 32 [some (pv_r 29), some (pv_i p1), some (pv_i (nI i)), some (pv_i (nI (lf nd dr c k))), some (pv_i (nI k))] [] sh m mr Po := by
  refine lp_i 5 (fun k hk5 ih => ?_)
  intro m hag hd hc
  refine ev_iload dX6_findEnds_32 rfl ?_
  refine ev_iconst (v := 5) dX6_findEnds_34 rfl ?_
  refine ev_icmp_ge (tgt := 118) dX6_findEnds_35 rfl (fun h35 => ?_) (fun h35 => ?_)
  · have hin : k = 5 := by have := (nl_le n_5 (b := k) rfl (by omega) (by omega)).mp h35; omega
    subst hin
    exact hk m hag (fun j hj => hd j hj)
  · have hlt : k < 5 := by have := (not_congr (nl_le n_5 (b := k) rfl (by omega) (by omega))).mp h35; omega
    have hlb := lf_b hnd hdr hcb k (by omega)
    have hlb2 : lf nd dr c k + (if k = 3 then dr else 0) ≤ 100310 := by split at hlb <;> split <;> omega
    have hck := hcb k hlt
    have h47m : m 47 i = nI b := (hag 47 i (by decide)).trans h47
    refine ev_iload_n dX6_findEnds_38 rfl ?_
    refine ev_iload dX6_findEnds_39 rfl ?_
    refine ev_iconst (v := 3) dX6_findEnds_41 rfl ?_
    refine ev_icmp_ne (tgt := 59) dX6_findEnds_42 rfl (fun h42 => ?_) (fun h42 => ?_)
    · have hk3 : ¬ k = 3 := fun e => h42 (by rw [e]; rfl)
      refine ev_iconst (v := 0) dX6_findEnds_59 rfl ?_
      refine ev_iadd dX6_findEnds_60 ?_
      rw [show (nI (lf nd dr c k) + 0) = nI (lf nd dr c k + (if k = 3 then dr else 0)) by rw [if_neg hk3, Int32.add_zero, Nat.add_zero]]
      refine ev_istore_n dX6_findEnds_61 (by decide) ?_
      refine ev_iload_n dX6_findEnds_62 rfl ?_
      refine ev_aload_n dX6_findEnds_63 rfl ?_
      refine ev_getq dX6_findEnds_64 fl_X6_68 rfl (hB.1 29 _ rfl) (hB.2 29 23 _ rfl) ?_
      refine ev_iload dX6_findEnds_67 rfl ?_
      refine ev_iald dX6_findEnds_69 (hB.1 49 _ rfl) (j := k) rfl (by omega) (by decide) ?_
      refine ev_icmp_le (tgt := 77) dX6_findEnds_70 rfl (fun h70 => ?_) (fun h70 => ?_)
      · refine ev_aload_n dX6_findEnds_77 rfl ?_
        refine ev_getq dX6_findEnds_78 fl_X6_68 rfl (hB.1 29 _ rfl) (hB.2 29 23 _ rfl) ?_
        refine ev_iload dX6_findEnds_81 rfl ?_
        refine ev_iald dX6_findEnds_83 (hB.1 49 _ rfl) (j := k) rfl (by omega) (by decide) ?_
        rw [hc k (Nat.le_refl k) hlt] at h70 ⊢
        rw [show nI (c k) = (nI (max (lf nd dr c k + (if k = 3 then dr else 0)) (c k))) by rw [Nat.max_eq_right ((nI_leI (by omega) (by omega)).mp h70)]]
        refine ev_istore_n dX6_findEnds_84 (by decide) ?_
        refine ev_iload_n dX6_findEnds_85 rfl ?_
        refine ev_aload_n dX6_findEnds_86 rfl ?_
        refine ev_getq dX6_findEnds_87 fl_X6_56 rfl (hB.1 29 _ rfl) (hB.2 29 19 _ rfl) ?_
        refine ev_iconst (v := 5) dX6_findEnds_90 rfl ?_
        refine ev_aload_n dX6_findEnds_91 rfl ?_
        refine ev_getq dX6_findEnds_92 fl_X6_62 rfl (hB.1 29 _ rfl) (hB.2 29 21 _ rfl) ?_
        refine ev_iload_n dX6_findEnds_95 rfl ?_
        refine ev_iald dX6_findEnds_96 (hB.1 47 _ rfl) (j := i) rfl (by omega) (by decide) ?_
        rw [h47m]
        refine ev_imul dX6_findEnds_97 ?_
        refine ev_iload dX6_findEnds_98 rfl ?_
        refine ev_iadd dX6_findEnds_100 ?_
        refine ev_iald dX6_findEnds_101 (hB.1 45 _ rfl) (j := 5 * b + k) (by rw [n_5, pk_mul, nI_add]) (by omega) (by decide) ?_
        refine ev_iadd dX6_findEnds_102 ?_
        rw [show (nI (max (lf nd dr c k + (if k = 3 then dr else 0)) (c k))) + m 45 (5 * b + k) = nI (lf nd dr c (k + 1)) by rw [hag 45 _ (by decide), h45 k hlt, nI_add]; rfl]
        refine ev_istore_n dX6_findEnds_103 (by decide) ?_
        refine ev_aload_n dX6_findEnds_104 rfl ?_
        refine ev_getq dX6_findEnds_105 fl_X6_68 rfl (hB.1 29 _ rfl) (hB.2 29 23 _ rfl) ?_
        refine ev_iload dX6_findEnds_108 rfl ?_
        refine ev_iload_n dX6_findEnds_110 rfl ?_
        refine ev_iast dX6_findEnds_111 (hB.1 49 _ rfl) (j := k) rfl (by omega) (by decide) ?_
        refine ev_iincN dX6_findEnds_112 rfl (by decide) ?_
        refine ev_goto (tgt := 32) dX6_findEnds_115 rfl ?_
        refine ih hlt _ (fun a e g => ?_) (fun j hj => ?_) (fun j hj h5 => ?_)
        · rw [up_ne (Or.inl g)]
          exact hag a e g
        · by_cases e : j = k
          · subst e
            exact up_at
          · rw [up_ne (Or.inr e)]
            exact hd j (by omega)
        · rw [up_ne (Or.inr (by omega))]
          exact hc j (by omega) h5
      · refine ev_iload_n dX6_findEnds_73 rfl ?_
        refine ev_goto (tgt := 84) dX6_findEnds_74 rfl ?_
        rw [hc k (Nat.le_refl k) hlt] at h70
        rw [show nI (lf nd dr c k + (if k = 3 then dr else 0)) = (nI (max (lf nd dr c k + (if k = 3 then dr else 0)) (c k))) by rw [Nat.max_eq_left (by have := (not_congr (nI_leI (by omega) (by omega))).mp h70; omega)]]
        refine ev_istore_n dX6_findEnds_84 (by decide) ?_
        refine ev_iload_n dX6_findEnds_85 rfl ?_
        refine ev_aload_n dX6_findEnds_86 rfl ?_
        refine ev_getq dX6_findEnds_87 fl_X6_56 rfl (hB.1 29 _ rfl) (hB.2 29 19 _ rfl) ?_
        refine ev_iconst (v := 5) dX6_findEnds_90 rfl ?_
        refine ev_aload_n dX6_findEnds_91 rfl ?_
        refine ev_getq dX6_findEnds_92 fl_X6_62 rfl (hB.1 29 _ rfl) (hB.2 29 21 _ rfl) ?_
        refine ev_iload_n dX6_findEnds_95 rfl ?_
        refine ev_iald dX6_findEnds_96 (hB.1 47 _ rfl) (j := i) rfl (by omega) (by decide) ?_
        rw [h47m]
        refine ev_imul dX6_findEnds_97 ?_
        refine ev_iload dX6_findEnds_98 rfl ?_
        refine ev_iadd dX6_findEnds_100 ?_
        refine ev_iald dX6_findEnds_101 (hB.1 45 _ rfl) (j := 5 * b + k) (by rw [n_5, pk_mul, nI_add]) (by omega) (by decide) ?_
        refine ev_iadd dX6_findEnds_102 ?_
        rw [show (nI (max (lf nd dr c k + (if k = 3 then dr else 0)) (c k))) + m 45 (5 * b + k) = nI (lf nd dr c (k + 1)) by rw [hag 45 _ (by decide), h45 k hlt, nI_add]; rfl]
        refine ev_istore_n dX6_findEnds_103 (by decide) ?_
        refine ev_aload_n dX6_findEnds_104 rfl ?_
        refine ev_getq dX6_findEnds_105 fl_X6_68 rfl (hB.1 29 _ rfl) (hB.2 29 23 _ rfl) ?_
        refine ev_iload dX6_findEnds_108 rfl ?_
        refine ev_iload_n dX6_findEnds_110 rfl ?_
        refine ev_iast dX6_findEnds_111 (hB.1 49 _ rfl) (j := k) rfl (by omega) (by decide) ?_
        refine ev_iincN dX6_findEnds_112 rfl (by decide) ?_
        refine ev_goto (tgt := 32) dX6_findEnds_115 rfl ?_
        refine ih hlt _ (fun a e g => ?_) (fun j hj => ?_) (fun j hj h5 => ?_)
        · rw [up_ne (Or.inl g)]
          exact hag a e g
        · by_cases e : j = k
          · subst e
            exact up_at
          · rw [up_ne (Or.inr e)]
            exact hd j (by omega)
        · rw [up_ne (Or.inr (by omega))]
          exact hc j (by omega) h5
    · have hk3 : k = 3 := (nl_eq (x := nI k) rfl (show (3 : Int32) = nI 3 from rfl) (by omega) (by decide)).mp h42
      refine ev_aload_n dX6_findEnds_45 rfl ?_
      refine ev_getq dX6_findEnds_46 fl_X6_59 rfl (hB.1 29 _ rfl) (hB.2 29 20 _ rfl) ?_
      refine ev_aload_n dX6_findEnds_49 rfl ?_
      refine ev_getq dX6_findEnds_50 fl_X6_62 rfl (hB.1 29 _ rfl) (hB.2 29 21 _ rfl) ?_
      refine ev_iload_n dX6_findEnds_53 rfl ?_
      refine ev_iald dX6_findEnds_54 (hB.1 47 _ rfl) (j := i) rfl (by omega) (by decide) ?_
      refine ev_iald dX6_findEnds_55 (hB.1 46 _ rfl) (j := b) h47m (by omega) (by decide) ?_
      refine ev_goto (tgt := 60) dX6_findEnds_56 rfl ?_
      refine ev_iadd dX6_findEnds_60 ?_
      rw [show (nI (lf nd dr c k) + m 46 b) = nI (lf nd dr c k + (if k = 3 then dr else 0)) by rw [if_pos hk3, hag 46 b (by decide), h46, nI_add]]
      refine ev_istore_n dX6_findEnds_61 (by decide) ?_
      refine ev_iload_n dX6_findEnds_62 rfl ?_
      refine ev_aload_n dX6_findEnds_63 rfl ?_
      refine ev_getq dX6_findEnds_64 fl_X6_68 rfl (hB.1 29 _ rfl) (hB.2 29 23 _ rfl) ?_
      refine ev_iload dX6_findEnds_67 rfl ?_
      refine ev_iald dX6_findEnds_69 (hB.1 49 _ rfl) (j := k) rfl (by omega) (by decide) ?_
      refine ev_icmp_le (tgt := 77) dX6_findEnds_70 rfl (fun h70 => ?_) (fun h70 => ?_)
      · refine ev_aload_n dX6_findEnds_77 rfl ?_
        refine ev_getq dX6_findEnds_78 fl_X6_68 rfl (hB.1 29 _ rfl) (hB.2 29 23 _ rfl) ?_
        refine ev_iload dX6_findEnds_81 rfl ?_
        refine ev_iald dX6_findEnds_83 (hB.1 49 _ rfl) (j := k) rfl (by omega) (by decide) ?_
        rw [hc k (Nat.le_refl k) hlt] at h70 ⊢
        rw [show nI (c k) = (nI (max (lf nd dr c k + (if k = 3 then dr else 0)) (c k))) by rw [Nat.max_eq_right ((nI_leI (by omega) (by omega)).mp h70)]]
        refine ev_istore_n dX6_findEnds_84 (by decide) ?_
        refine ev_iload_n dX6_findEnds_85 rfl ?_
        refine ev_aload_n dX6_findEnds_86 rfl ?_
        refine ev_getq dX6_findEnds_87 fl_X6_56 rfl (hB.1 29 _ rfl) (hB.2 29 19 _ rfl) ?_
        refine ev_iconst (v := 5) dX6_findEnds_90 rfl ?_
        refine ev_aload_n dX6_findEnds_91 rfl ?_
        refine ev_getq dX6_findEnds_92 fl_X6_62 rfl (hB.1 29 _ rfl) (hB.2 29 21 _ rfl) ?_
        refine ev_iload_n dX6_findEnds_95 rfl ?_
        refine ev_iald dX6_findEnds_96 (hB.1 47 _ rfl) (j := i) rfl (by omega) (by decide) ?_
        rw [h47m]
        refine ev_imul dX6_findEnds_97 ?_
        refine ev_iload dX6_findEnds_98 rfl ?_
        refine ev_iadd dX6_findEnds_100 ?_
        refine ev_iald dX6_findEnds_101 (hB.1 45 _ rfl) (j := 5 * b + k) (by rw [n_5, pk_mul, nI_add]) (by omega) (by decide) ?_
        refine ev_iadd dX6_findEnds_102 ?_
        rw [show (nI (max (lf nd dr c k + (if k = 3 then dr else 0)) (c k))) + m 45 (5 * b + k) = nI (lf nd dr c (k + 1)) by rw [hag 45 _ (by decide), h45 k hlt, nI_add]; rfl]
        refine ev_istore_n dX6_findEnds_103 (by decide) ?_
        refine ev_aload_n dX6_findEnds_104 rfl ?_
        refine ev_getq dX6_findEnds_105 fl_X6_68 rfl (hB.1 29 _ rfl) (hB.2 29 23 _ rfl) ?_
        refine ev_iload dX6_findEnds_108 rfl ?_
        refine ev_iload_n dX6_findEnds_110 rfl ?_
        refine ev_iast dX6_findEnds_111 (hB.1 49 _ rfl) (j := k) rfl (by omega) (by decide) ?_
        refine ev_iincN dX6_findEnds_112 rfl (by decide) ?_
        refine ev_goto (tgt := 32) dX6_findEnds_115 rfl ?_
        refine ih hlt _ (fun a e g => ?_) (fun j hj => ?_) (fun j hj h5 => ?_)
        · rw [up_ne (Or.inl g)]
          exact hag a e g
        · by_cases e : j = k
          · subst e
            exact up_at
          · rw [up_ne (Or.inr e)]
            exact hd j (by omega)
        · rw [up_ne (Or.inr (by omega))]
          exact hc j (by omega) h5
      · refine ev_iload_n dX6_findEnds_73 rfl ?_
        refine ev_goto (tgt := 84) dX6_findEnds_74 rfl ?_
        rw [hc k (Nat.le_refl k) hlt] at h70
        rw [show nI (lf nd dr c k + (if k = 3 then dr else 0)) = (nI (max (lf nd dr c k + (if k = 3 then dr else 0)) (c k))) by rw [Nat.max_eq_left (by have := (not_congr (nI_leI (by omega) (by omega))).mp h70; omega)]]
        refine ev_istore_n dX6_findEnds_84 (by decide) ?_
        refine ev_iload_n dX6_findEnds_85 rfl ?_
        refine ev_aload_n dX6_findEnds_86 rfl ?_
        refine ev_getq dX6_findEnds_87 fl_X6_56 rfl (hB.1 29 _ rfl) (hB.2 29 19 _ rfl) ?_
        refine ev_iconst (v := 5) dX6_findEnds_90 rfl ?_
        refine ev_aload_n dX6_findEnds_91 rfl ?_
        refine ev_getq dX6_findEnds_92 fl_X6_62 rfl (hB.1 29 _ rfl) (hB.2 29 21 _ rfl) ?_
        refine ev_iload_n dX6_findEnds_95 rfl ?_
        refine ev_iald dX6_findEnds_96 (hB.1 47 _ rfl) (j := i) rfl (by omega) (by decide) ?_
        rw [h47m]
        refine ev_imul dX6_findEnds_97 ?_
        refine ev_iload dX6_findEnds_98 rfl ?_
        refine ev_iadd dX6_findEnds_100 ?_
        refine ev_iald dX6_findEnds_101 (hB.1 45 _ rfl) (j := 5 * b + k) (by rw [n_5, pk_mul, nI_add]) (by omega) (by decide) ?_
        refine ev_iadd dX6_findEnds_102 ?_
        rw [show (nI (max (lf nd dr c k + (if k = 3 then dr else 0)) (c k))) + m 45 (5 * b + k) = nI (lf nd dr c (k + 1)) by rw [hag 45 _ (by decide), h45 k hlt, nI_add]; rfl]
        refine ev_istore_n dX6_findEnds_103 (by decide) ?_
        refine ev_aload_n dX6_findEnds_104 rfl ?_
        refine ev_getq dX6_findEnds_105 fl_X6_68 rfl (hB.1 29 _ rfl) (hB.2 29 23 _ rfl) ?_
        refine ev_iload dX6_findEnds_108 rfl ?_
        refine ev_iload_n dX6_findEnds_110 rfl ?_
        refine ev_iast dX6_findEnds_111 (hB.1 49 _ rfl) (j := k) rfl (by omega) (by decide) ?_
        refine ev_iincN dX6_findEnds_112 rfl (by decide) ?_
        refine ev_goto (tgt := 32) dX6_findEnds_115 rfl ?_
        refine ih hlt _ (fun a e g => ?_) (fun j hj => ?_) (fun j hj h5 => ?_)
        · rw [up_ne (Or.inl g)]
          exact hag a e g
        · by_cases e : j = k
          · subst e
            exact up_at
          · rw [up_ne (Or.inr e)]
            exact hd j (by omega)
        · rw [up_ne (Or.inr (by omega))]
          exact hc j (by omega) h5
set_option maxRecDepth 100000 in
set_option maxHeartbeats 4000000 in
theorem lp_X6_findEnds {sh : SH} {mi : MI} {mr : MR} (hB : ba_c sh mr) {H : Nat → Nat → Nat} {Dr Pm Pc : Nat → Nat} (hbd : bd_o 10 H Dr Pm Pc) (r : List Nat) (hr7 : r.length ≤ 7) (hr10 : ∀ x ∈ r, x < 10) (hrow : ∀ i, i < r.length → mi 47 i = nI (r.getD i 0)) (hH : ∀ b, b < 10 → (∀ k, k < 5 → mi 45 (5 * b + k) = nI (H b k)) ∧ mi 46 b = nI (Dr b)) : ∀ i, i ≤ r.length → ∀ m : MI, (∀ a c, a ≠ 48 → a ≠ 49 → m a c = mi a c) → (∀ k, k < 5 → m 49 k = nI (cl_o H Dr (r.take i) k)) → (∀ a, a < i → m 48 a = nI (cl_o H Dr (r.take (a + 1)) 4)) → EV none 0 0 0 mX6_findEnds 22 [some (pv_r 29), some (pv_i (nI r.length)), some (pv_i (nI i)), none, none] [] sh m mr (fun v_ sh_ mi_ mr_ => v_ = none ∧ sh_ = sh ∧ mr_ = mr ∧ (∀ a c, a ≠ 48 → a ≠ 49 → mi_ a c = mi a c) ∧ ∀ i, i < r.length → mi_ 48 i = nI (cl_o H Dr (r.take (i + 1)) 4)) := by
  refine lp_i r.length (fun i hi ih => ?_)
  intro m hag hcl h48
  refine ev_iload_n dX6_findEnds_22 rfl ?_
  refine ev_iload_n dX6_findEnds_23 rfl ?_
  refine ev_icmp_ge (tgt := 131) dX6_findEnds_24 rfl (fun h24 => ?_) (fun h24 => ?_)
  · have hin : i = r.length := by have := (nI_leI (by omega) (by omega)).mp h24; omega
    subst hin
    exact ev_return dX6_findEnds_131 rfl ⟨rfl, rfl, rfl, hag, h48⟩
  · have hlt : i < r.length := by have := (not_congr (nI_leI (by omega) (by omega))).mp h24; omega
    have hb10 : r.getD i 0 < 10 := hr10 _ (by rw [List.getD_eq_getElem?_getD, List.getElem?_eq_getElem hlt]; exact List.getElem_mem _)
    have hcb : ∀ k, k < 5 → cl_o H Dr (r.take i) k ≤ 100000 := fun k hk => Nat.le_trans (cl_b2 hbd _ (by simp; omega) (fun x hx => hr10 x (List.mem_of_mem_take hx)) k hk) (by decide)
    refine ev_iconst (v := 0) dX6_findEnds_27 rfl ?_
    refine ev_istore_n dX6_findEnds_28 (by decide) ?_
    refine ev_iconst (v := 0) dX6_findEnds_29 rfl ?_
    refine ev_istore dX6_findEnds_30 (by decide) ?_
    refine lp_X6_fe hB _ i (r.getD i 0) (by omega) hb10 (H (r.getD i 0)) (Dr (r.getD i 0)) (cl_o H Dr (r.take i)) (hbd _ hb10).1 (hbd _ hb10).2.1 hcb m ((hag 47 i (by decide) (by decide)).trans (hrow i hlt)) (fun k hk => (hag 45 _ (by decide) (by decide)).trans ((hH _ hb10).1 k hk)) ((hag 46 _ (by decide) (by decide)).trans (hH _ hb10).2) ?_ 0 (by decide) m (fun _ _ _ => rfl) (fun j hj => by cases hj) (fun j _ hj => hcl j hj)
    intro m2 hag2 hcl2
    refine ev_aload_n dX6_findEnds_118 rfl ?_
    refine ev_getq dX6_findEnds_119 fl_X6_65 rfl (hB.1 29 _ rfl) (hB.2 29 22 _ rfl) ?_
    refine ev_iload_n dX6_findEnds_122 rfl ?_
    refine ev_iload_n dX6_findEnds_123 rfl ?_
    refine ev_iast dX6_findEnds_124 (hB.1 48 _ rfl) (j := i) rfl (by omega) (by decide) ?_
    refine ev_iincN dX6_findEnds_125 rfl (by decide) ?_
    refine ev_goto (tgt := 22) dX6_findEnds_128 rfl ?_
    refine ev_fg 4 (ev_fg 3 ?_)
    refine ih hlt _ (fun a c g1 g2 => ?_) (fun k hk => ?_) (fun a ha => ?_)
    · rw [up_ne (Or.inl g1), hag2 a c g2]
      exact hag a c g1 g2
    · rw [up_ne (Or.inl (by decide)), hcl2 k hk, tk_sn hlt, cl_snoc]
    · by_cases e : a = i
      · subst e
        rw [up_at, tk_sn hlt, cl_snoc]
        rfl
      · rw [up_ne (Or.inr e), hag2 48 a (by decide)]
        exact h48 a (by omega)
set_option maxRecDepth 100000 in
set_option maxHeartbeats 4000000 in
theorem lp_X6_fz {sh : SH} {mi : MI} {mr : MR} (hB : ba_c sh mr) {H : Nat → Nat → Nat} {Dr Pm Pc : Nat → Nat} (hbd : bd_o 10 H Dr Pm Pc) (r : List Nat) (hr7 : r.length ≤ 7) (hr10 : ∀ x ∈ r, x < 10) (hrow : ∀ i, i < r.length → mi 47 i = nI (r.getD i 0)) (hH : ∀ b, b < 10 → (∀ k, k < 5 → mi 45 (5 * b + k) = nI (H b k)) ∧ mi 46 b = nI (Dr b)) : ∀ i, i ≤ 5 → EV none 0 0 0 mX6_findEnds 2 [some (pv_r 29), some (pv_i (nI r.length)), some (pv_i (nI i)), none, none] [] sh (fl_r mi 49 0 i 0) mr (fun v_ sh_ mi_ mr_ => v_ = none ∧ sh_ = sh ∧ mr_ = mr ∧ (∀ a c, a ≠ 48 → a ≠ 49 → mi_ a c = mi a c) ∧ ∀ i, i < r.length → mi_ 48 i = nI (cl_o H Dr (r.take (i + 1)) 4)) := by
  refine lp_i 5 (fun i hi ih => ?_)
  refine ev_iload_n dX6_findEnds_2 rfl ?_
  refine ev_iconst (v := 5) dX6_findEnds_3 rfl ?_
  refine ev_icmp_ge (tgt := 20) dX6_findEnds_4 rfl (fun h4 => ?_) (fun h4 => ?_)
  · have hin : i = 5 := by have := (nl_le n_5 rfl (by omega) (by omega)).mp h4; omega
    subst hin
    refine ev_iconst (v := 0) dX6_findEnds_20 rfl ?_
    refine ev_istore_n dX6_findEnds_21 (by decide) ?_
    exact lp_X6_findEnds hB hbd r hr7 hr10 hrow hH 0 (Nat.zero_le _) _ (fun a c g1 g2 => if_neg (fun e => g2 e.1)) (fun k hk => if_pos ⟨rfl, Nat.zero_le _, by omega⟩) (fun a ha => by cases ha)
  · have hlt : i < 5 := by have := (not_congr (nl_le n_5 rfl (by omega) (by omega))).mp h4; omega
    refine ev_aload_n dX6_findEnds_7 rfl ?_
    refine ev_getq dX6_findEnds_8 fl_X6_68 rfl (hB.1 29 _ rfl) (hB.2 29 23 _ rfl) ?_
    refine ev_iload_n dX6_findEnds_11 rfl ?_
    refine ev_iconst (v := 0) dX6_findEnds_12 rfl ?_
    refine ev_iast dX6_findEnds_13 (hB.1 49 _ rfl) (j := i) rfl (by omega) (by decide) ?_
    refine ev_iincN dX6_findEnds_14 rfl (by decide) ?_
    refine ev_goto (tgt := 2) dX6_findEnds_17 rfl ?_
    have q := ih hlt
    rw [← fl_s, Nat.zero_add] at q
    exact q
set_option maxRecDepth 100000 in
set_option maxHeartbeats 4000000 in
theorem t_X6_findEnds {sh : SH} {mi : MI} {mr : MR} (hB : ba_c sh mr) {H : Nat → Nat → Nat} {Dr Pm Pc : Nat → Nat} (hbd : bd_o 10 H Dr Pm Pc) (r : List Nat) (hr7 : r.length ≤ 7) (hr10 : ∀ x ∈ r, x < 10) (hrow : ∀ i, i < r.length → mi 47 i = nI (r.getD i 0)) (hH : ∀ b, b < 10 → (∀ k, k < 5 → mi 45 (5 * b + k) = nI (H b k)) ∧ mi 46 b = nI (Dr b)) : EV none 0 0 0 mX6_findEnds 0 (en_l mX6_findEnds [pv_r 29, pv_i (nI r.length)]) [] sh mi mr (fun v_ sh_ mi_ mr_ => v_ = none ∧ sh_ = sh ∧ mr_ = mr ∧ (∀ a c, a ≠ 48 → a ≠ 49 → mi_ a c = mi a c) ∧ ∀ i, i < r.length → mi_ 48 i = nI (cl_o H Dr (r.take (i + 1)) 4)) := by
  show EV none 0 0 0 mX6_findEnds 0 [some (pv_r 29), some (pv_i (nI r.length)), none, none, none] [] sh mi mr _
  refine ev_iconst (v := 0) dX6_findEnds_0 rfl ?_
  refine ev_istore_n dX6_findEnds_1 (by decide) ?_
  have q := lp_X6_fz hB hbd r hr7 hr10 hrow hH 0 (by decide)
  rw [fl_0] at q
  exact q
