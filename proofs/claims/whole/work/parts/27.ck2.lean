/-! ===== the class's kitchens: taken from another, kept, brought back ===== -/
theorem cpy_in0 {f g : Nat → Int32} {n s : Nat} (h : s < n) : va_cpy f g 0 0 n s = f s := by
  unfold va_cpy
  rw [if_pos (by omega)]
  congr 1
  omega
theorem cpy_at {f g : Nat → Int32} {sp dp n j i : Nat} (h : j < n) (e : dp + j = i) : va_cpy f g sp dp n i = f (sp + j) := by
  subst e
  unfold va_cpy
  rw [if_pos (by omega)]
  congr 1
  omega
theorem cpy_out {f g : Nat → Int32} {sp dp n i : Nat} (h : i < dp ∨ dp + n ≤ i) : va_cpy f g sp dp n i = g i := by
  unfold va_cpy
  rw [if_neg (by omega)]
/-- the page pg holds what an act can change of the row st -/
def PG (m : jM) (pg : Nat) (st : Nat → Int32) (V P : Nat) : Prop := m pg 0 = st 3 ∧ (∀ s, s < V → m pg (1 + s) = st (13 + s)) ∧ (∀ p, p < P → m pg (4 + p) = st (31 + p)) ∧ (∀ p, p < P → m pg (9 + p) = st (36 + p)) ∧ ∀ p, p < P → m pg (14 + p) = st (46 + p)
/-- alike in all that no act changes -/
def SS (st st' : Nat → Int32) : Prop := ∀ i, (i < 13 ∧ i ≠ 3) ∨ (16 ≤ i ∧ i < 31) → st' i = st i
set_option maxHeartbeats 2000000 in
set_option maxRecDepth 20000 in
theorem s_CtakeFrom (kc ko : Nat) (hk : isK kc) (hko : isK ko) (hne : kc ≠ ko) (m : jM) (st : Nat → Int32) (V P : Nat) (hV : V ≤ 3) (hP : P ≤ 5) (hR : RK m ko st V P) (h01 : m ko 0 = 0 ∨ m ko 0 = 1) : vX mX0_takeFrom [.ref kc, .ref ko] m (fun m1 => RK m1 kc st V P ∧ m1 kc 0 = m ko 0 ∧ ∀ c, c < kc ∨ kc + 10 < c → m1 c = m c) := by
  have hfar := isK.far hk hko hne
  refine jX_of (L := [some (.ref kc), some (.ref ko)]) 0 rfl rfl (by decide +kernel) rfl ?_
  refine e_aload_n dX0_takeFrom_0 rfl ?_
  refine e_aload_n dX0_takeFrom_1 rfl ?_
  refine e_getI dX0_takeFrom_2 lkX0_9 (isK.l0 hko) rfl ?_
  refine e_putI dX0_takeFrom_5 lkX0_9 (isK.l0 hk) rfl fwX0_0 (Or.inr ⟨rfl, h01⟩) (fun t1 ht1 => ?_)
  refine e_aload_n dX0_takeFrom_8 rfl ?_
  refine e_aload_n dX0_takeFrom_9 rfl ?_
  refine e_getI dX0_takeFrom_10 lkX0_15 (isK.l0 hko) rfl ?_
  rw [show t1 ko 1 = m ko 1 from by rw [ht1, jup_n _ _ (by omega)]]
  refine e_putI dX0_takeFrom_13 lkX0_15 (isK.l0 hk) rfl fwX0_1 (Or.inl rfl) (fun t2 ht2 => ?_)
  refine e_aload_n dX0_takeFrom_16 rfl ?_
  refine e_aload_n dX0_takeFrom_17 rfl ?_
  refine e_getI dX0_takeFrom_18 lkX0_19 (isK.l0 hko) rfl ?_
  rw [show t2 ko 2 = m ko 2 from by rw [ht2, jup_n _ _ (by omega), ht1, jup_n _ _ (by omega)]]
  refine e_putI dX0_takeFrom_21 lkX0_19 (isK.l0 hk) rfl fwX0_2 (Or.inl rfl) (fun t3 ht3 => ?_)
  refine e_aload_n dX0_takeFrom_24 rfl ?_
  refine e_aload_n dX0_takeFrom_25 rfl ?_
  refine e_getI dX0_takeFrom_26 lkX0_32 (isK.l0 hko) rfl ?_
  rw [show t3 ko 6 = m ko 6 from by rw [ht3, jup_n _ _ (by omega), ht2, jup_n _ _ (by omega), ht1, jup_n _ _ (by omega)]]
  refine e_putI dX0_takeFrom_29 lkX0_32 (isK.l0 hk) rfl fwX0_6 (Or.inl rfl) (fun t4 ht4 => ?_)
  refine e_aload_n dX0_takeFrom_32 rfl ?_
  refine e_aload_n dX0_takeFrom_33 rfl ?_
  refine e_getI dX0_takeFrom_34 lkX0_44 (isK.l0 hko) rfl ?_
  rw [show t4 ko 10 = m ko 10 from by rw [ht4, jup_n _ _ (by omega), ht3, jup_n _ _ (by omega), ht2, jup_n _ _ (by omega), ht1, jup_n _ _ (by omega)]]
  refine e_putI dX0_takeFrom_37 lkX0_44 (isK.l0 hk) rfl fwX0_10 (Or.inl rfl) (fun t5 ht5 => ?_)
  refine e_aload_n dX0_takeFrom_40 rfl ?_
  refine e_getR (o := 1) (b := ko + 1) dX0_takeFrom_41 lkX0_22 (isK.l0 hko) rfl (by decide) rfl ?_
  refine e_iconst (v := 0) dX0_takeFrom_44 rfl ?_
  refine e_aload_n dX0_takeFrom_45 rfl ?_
  refine e_getR (o := 1) (b := kc + 1) dX0_takeFrom_46 lkX0_22 (isK.l0 hk) rfl (by decide) rfl ?_
  refine e_iconst (v := 0) dX0_takeFrom_49 rfl ?_
  refine e_iconst (v := 3) dX0_takeFrom_50 rfl ?_
  refine e_copy dX0_takeFrom_51 ckX0_66 (isK.l1 hko) (isK.l1 hk) 0 0 3 rfl rfl rfl (by omega) (by omega) (by decide) (by decide) (Nat.le_of_ble_eq_true rfl) (Nat.le_of_ble_eq_true rfl) (fun t6 ht6 => ?_)
  refine e_aload_n dX0_takeFrom_54 rfl ?_
  refine e_getR (o := 2) (b := ko + 2) dX0_takeFrom_55 lkX0_26 (isK.l0 hko) rfl (by decide) rfl ?_
  refine e_iconst (v := 0) dX0_takeFrom_58 rfl ?_
  refine e_aload_n dX0_takeFrom_59 rfl ?_
  refine e_getR (o := 2) (b := kc + 2) dX0_takeFrom_60 lkX0_26 (isK.l0 hk) rfl (by decide) rfl ?_
  refine e_iconst (v := 0) dX0_takeFrom_63 rfl ?_
  refine e_iconst (v := 3) dX0_takeFrom_64 rfl ?_
  refine e_copy dX0_takeFrom_65 ckX0_66 (isK.l2 hko) (isK.l2 hk) 0 0 3 rfl rfl rfl (by omega) (by omega) (by decide) (by decide) (Nat.le_of_ble_eq_true rfl) (Nat.le_of_ble_eq_true rfl) (fun t7 ht7 => ?_)
  refine e_aload_n dX0_takeFrom_68 rfl ?_
  refine e_getR (o := 3) (b := ko + 3) dX0_takeFrom_69 lkX0_29 (isK.l0 hko) rfl (by decide) rfl ?_
  refine e_iconst (v := 0) dX0_takeFrom_72 rfl ?_
  refine e_aload_n dX0_takeFrom_73 rfl ?_
  refine e_getR (o := 3) (b := kc + 3) dX0_takeFrom_74 lkX0_29 (isK.l0 hk) rfl (by decide) rfl ?_
  refine e_iconst (v := 0) dX0_takeFrom_77 rfl ?_
  refine e_iconst (v := 3) dX0_takeFrom_78 rfl ?_
  refine e_copy dX0_takeFrom_79 ckX0_66 (isK.l3 hko) (isK.l3 hk) 0 0 3 rfl rfl rfl (by omega) (by omega) (by decide) (by decide) (Nat.le_of_ble_eq_true rfl) (Nat.le_of_ble_eq_true rfl) (fun t8 ht8 => ?_)
  refine e_aload_n dX0_takeFrom_82 rfl ?_
  refine e_getR (o := 7) (b := ko + 7) dX0_takeFrom_83 lkX0_47 (isK.l0 hko) rfl (by decide) rfl ?_
  refine e_iconst (v := 0) dX0_takeFrom_86 rfl ?_
  refine e_aload_n dX0_takeFrom_87 rfl ?_
  refine e_getR (o := 7) (b := kc + 7) dX0_takeFrom_88 lkX0_47 (isK.l0 hk) rfl (by decide) rfl ?_
  refine e_iconst (v := 0) dX0_takeFrom_91 rfl ?_
  refine e_iconst (v := 3) dX0_takeFrom_92 rfl ?_
  refine e_copy dX0_takeFrom_93 ckX0_66 (isK.l7 hko) (isK.l7 hk) 0 0 3 rfl rfl rfl (by omega) (by omega) (by decide) (by decide) (Nat.le_of_ble_eq_true rfl) (Nat.le_of_ble_eq_true rfl) (fun t9 ht9 => ?_)
  refine e_aload_n dX0_takeFrom_96 rfl ?_
  refine e_getR (o := 4) (b := ko + 4) dX0_takeFrom_97 lkX0_35 (isK.l0 hko) rfl (by decide) rfl ?_
  refine e_iconst (v := 0) dX0_takeFrom_100 rfl ?_
  refine e_aload_n dX0_takeFrom_101 rfl ?_
  refine e_getR (o := 4) (b := kc + 4) dX0_takeFrom_102 lkX0_35 (isK.l0 hk) rfl (by decide) rfl ?_
  refine e_iconst (v := 0) dX0_takeFrom_105 rfl ?_
  refine e_iconst (v := 5) dX0_takeFrom_106 rfl ?_
  refine e_copy dX0_takeFrom_107 ckX0_66 (isK.l4 hko) (isK.l4 hk) 0 0 5 rfl rfl rfl (by omega) (by omega) (by decide) (by decide) (Nat.le_of_ble_eq_true rfl) (Nat.le_of_ble_eq_true rfl) (fun t10 ht10 => ?_)
  refine e_aload_n dX0_takeFrom_110 rfl ?_
  refine e_getR (o := 5) (b := ko + 5) dX0_takeFrom_111 lkX0_38 (isK.l0 hko) rfl (by decide) rfl ?_
  refine e_iconst (v := 0) dX0_takeFrom_114 rfl ?_
  refine e_aload_n dX0_takeFrom_115 rfl ?_
  refine e_getR (o := 5) (b := kc + 5) dX0_takeFrom_116 lkX0_38 (isK.l0 hk) rfl (by decide) rfl ?_
  refine e_iconst (v := 0) dX0_takeFrom_119 rfl ?_
  refine e_iconst (v := 5) dX0_takeFrom_120 rfl ?_
  refine e_copy dX0_takeFrom_121 ckX0_66 (isK.l5 hko) (isK.l5 hk) 0 0 5 rfl rfl rfl (by omega) (by omega) (by decide) (by decide) (Nat.le_of_ble_eq_true rfl) (Nat.le_of_ble_eq_true rfl) (fun t11 ht11 => ?_)
  refine e_aload_n dX0_takeFrom_124 rfl ?_
  refine e_getR (o := 6) (b := ko + 6) dX0_takeFrom_125 lkX0_41 (isK.l0 hko) rfl (by decide) rfl ?_
  refine e_iconst (v := 0) dX0_takeFrom_128 rfl ?_
  refine e_aload_n dX0_takeFrom_129 rfl ?_
  refine e_getR (o := 6) (b := kc + 6) dX0_takeFrom_130 lkX0_41 (isK.l0 hk) rfl (by decide) rfl ?_
  refine e_iconst (v := 0) dX0_takeFrom_133 rfl ?_
  refine e_iconst (v := 5) dX0_takeFrom_134 rfl ?_
  refine e_copy dX0_takeFrom_135 ckX0_66 (isK.l6 hko) (isK.l6 hk) 0 0 5 rfl rfl rfl (by omega) (by omega) (by decide) (by decide) (Nat.le_of_ble_eq_true rfl) (Nat.le_of_ble_eq_true rfl) (fun t12 ht12 => ?_)
  refine e_aload_n dX0_takeFrom_138 rfl ?_
  refine e_getR (o := 8) (b := ko + 8) dX0_takeFrom_139 lkX0_50 (isK.l0 hko) rfl (by decide) rfl ?_
  refine e_iconst (v := 0) dX0_takeFrom_142 rfl ?_
  refine e_aload_n dX0_takeFrom_143 rfl ?_
  refine e_getR (o := 8) (b := kc + 8) dX0_takeFrom_144 lkX0_50 (isK.l0 hk) rfl (by decide) rfl ?_
  refine e_iconst (v := 0) dX0_takeFrom_147 rfl ?_
  refine e_iconst (v := 5) dX0_takeFrom_148 rfl ?_
  refine e_copy dX0_takeFrom_149 ckX0_66 (isK.l8 hko) (isK.l8 hk) 0 0 5 rfl rfl rfl (by omega) (by omega) (by decide) (by decide) (Nat.le_of_ble_eq_true rfl) (Nat.le_of_ble_eq_true rfl) (fun t13 ht13 => ?_)
  refine e_aload_n dX0_takeFrom_152 rfl ?_
  refine e_getR (o := 9) (b := ko + 9) dX0_takeFrom_153 lkX0_53 (isK.l0 hko) rfl (by decide) rfl ?_
  refine e_iconst (v := 0) dX0_takeFrom_156 rfl ?_
  refine e_aload_n dX0_takeFrom_157 rfl ?_
  refine e_getR (o := 9) (b := kc + 9) dX0_takeFrom_158 lkX0_53 (isK.l0 hk) rfl (by decide) rfl ?_
  refine e_iconst (v := 0) dX0_takeFrom_161 rfl ?_
  refine e_iconst (v := 5) dX0_takeFrom_162 rfl ?_
  refine e_copy dX0_takeFrom_163 ckX0_66 (isK.l9 hko) (isK.l9 hk) 0 0 5 rfl rfl rfl (by omega) (by omega) (by decide) (by decide) (Nat.le_of_ble_eq_true rfl) (Nat.le_of_ble_eq_true rfl) (fun t14 ht14 => ?_)
  refine e_aload_n dX0_takeFrom_166 rfl ?_
  refine e_getR (o := 10) (b := ko + 10) dX0_takeFrom_167 lkX0_56 (isK.l0 hko) rfl (by decide) rfl ?_
  refine e_iconst (v := 0) dX0_takeFrom_170 rfl ?_
  refine e_aload_n dX0_takeFrom_171 rfl ?_
  refine e_getR (o := 10) (b := kc + 10) dX0_takeFrom_172 lkX0_56 (isK.l0 hk) rfl (by decide) rfl ?_
  refine e_iconst (v := 0) dX0_takeFrom_175 rfl ?_
  refine e_iconst (v := 5) dX0_takeFrom_176 rfl ?_
  refine e_copy dX0_takeFrom_177 ckX0_66 (isK.l10 hko) (isK.l10 hk) 0 0 5 rfl rfl rfl (by omega) (by omega) (by decide) (by decide) (Nat.le_of_ble_eq_true rfl) (Nat.le_of_ble_eq_true rfl) (fun t15 ht15 => ?_)
  exact e_vret dX0_takeFrom_180 rfl (by
        refine ⟨⟨?_, ?_, ?_, ?_, ?_, ?_, ?_, ?_, ?_, ?_, ?_, ?_, ?_, ?_⟩, ?_, ?_⟩
        · rw [ht15, jup_n _ _ (by omega), ht14, jup_n _ _ (by omega), ht13, jup_n _ _ (by omega), ht12, jup_n _ _ (by omega), ht11, jup_n _ _ (by omega), ht10, jup_n _ _ (by omega), ht9, jup_n _ _ (by omega), ht8, jup_n _ _ (by omega), ht7, jup_n _ _ (by omega), ht6, jup_n _ _ (by omega), ht5, jup_s, upd_n _ _ (by decide), ht4, jup_s, upd_n _ _ (by decide), ht3, jup_s, upd_n _ _ (by decide), ht2, jup_s, upd_s]
          exact hR.bk
        · rw [ht15, jup_n _ _ (by omega), ht14, jup_n _ _ (by omega), ht13, jup_n _ _ (by omega), ht12, jup_n _ _ (by omega), ht11, jup_n _ _ (by omega), ht10, jup_n _ _ (by omega), ht9, jup_n _ _ (by omega), ht8, jup_n _ _ (by omega), ht7, jup_n _ _ (by omega), ht6, jup_n _ _ (by omega), ht5, jup_s, upd_n _ _ (by decide), ht4, jup_s, upd_n _ _ (by decide), ht3, jup_s, upd_s]
          exact hR.vs
        · rw [ht15, jup_n _ _ (by omega), ht14, jup_n _ _ (by omega), ht13, jup_n _ _ (by omega), ht12, jup_n _ _ (by omega), ht11, jup_n _ _ (by omega), ht10, jup_n _ _ (by omega), ht9, jup_n _ _ (by omega), ht8, jup_n _ _ (by omega), ht7, jup_n _ _ (by omega), ht6, jup_n _ _ (by omega), ht5, jup_s, upd_n _ _ (by decide), ht4, jup_s, upd_s]
          exact hR.ps
        · rw [ht15, jup_n _ _ (by omega), ht14, jup_n _ _ (by omega), ht13, jup_n _ _ (by omega), ht12, jup_n _ _ (by omega), ht11, jup_n _ _ (by omega), ht10, jup_n _ _ (by omega), ht9, jup_n _ _ (by omega), ht8, jup_n _ _ (by omega), ht7, jup_n _ _ (by omega), ht6, jup_n _ _ (by omega), ht5, jup_s, upd_s]
          exact hR.br
        · intro s hs
          rw [ht15, jup_n _ _ (by omega), ht14, jup_n _ _ (by omega), ht13, jup_n _ _ (by omega), ht12, jup_n _ _ (by omega), ht11, jup_n _ _ (by omega), ht10, jup_n _ _ (by omega), ht9, jup_n _ _ (by omega), ht8, jup_n _ _ (by omega), ht7, jup_n _ _ (by omega), ht6, jup_s, cpy_in0 (by omega), ht5, jup_n _ _ (by omega), ht4, jup_n _ _ (by omega), ht3, jup_n _ _ (by omega), ht2, jup_n _ _ (by omega), ht1, jup_n _ _ (by omega)]
          exact hR.lo s hs
        · intro s hs
          rw [ht15, jup_n _ _ (by omega), ht14, jup_n _ _ (by omega), ht13, jup_n _ _ (by omega), ht12, jup_n _ _ (by omega), ht11, jup_n _ _ (by omega), ht10, jup_n _ _ (by omega), ht9, jup_n _ _ (by omega), ht8, jup_n _ _ (by omega), ht7, jup_s, cpy_in0 (by omega), ht6, jup_n _ _ (by omega), ht5, jup_n _ _ (by omega), ht4, jup_n _ _ (by omega), ht3, jup_n _ _ (by omega), ht2, jup_n _ _ (by omega), ht1, jup_n _ _ (by omega)]
          exact hR.hi s hs
        · intro s hs
          rw [ht15, jup_n _ _ (by omega), ht14, jup_n _ _ (by omega), ht13, jup_n _ _ (by omega), ht12, jup_n _ _ (by omega), ht11, jup_n _ _ (by omega), ht10, jup_n _ _ (by omega), ht9, jup_n _ _ (by omega), ht8, jup_s, cpy_in0 (by omega), ht7, jup_n _ _ (by omega), ht6, jup_n _ _ (by omega), ht5, jup_n _ _ (by omega), ht4, jup_n _ _ (by omega), ht3, jup_n _ _ (by omega), ht2, jup_n _ _ (by omega), ht1, jup_n _ _ (by omega)]
          exact hR.bt s hs
        · intro s hs
          rw [ht15, jup_n _ _ (by omega), ht14, jup_n _ _ (by omega), ht13, jup_n _ _ (by omega), ht12, jup_n _ _ (by omega), ht11, jup_n _ _ (by omega), ht10, jup_n _ _ (by omega), ht9, jup_s, cpy_in0 (by omega), ht8, jup_n _ _ (by omega), ht7, jup_n _ _ (by omega), ht6, jup_n _ _ (by omega), ht5, jup_n _ _ (by omega), ht4, jup_n _ _ (by omega), ht3, jup_n _ _ (by omega), ht2, jup_n _ _ (by omega), ht1, jup_n _ _ (by omega)]
          exact hR.sg s hs
        · intro p hp
          rw [ht15, jup_n _ _ (by omega), ht14, jup_n _ _ (by omega), ht13, jup_n _ _ (by omega), ht12, jup_n _ _ (by omega), ht11, jup_n _ _ (by omega), ht10, jup_s, cpy_in0 (by omega), ht9, jup_n _ _ (by omega), ht8, jup_n _ _ (by omega), ht7, jup_n _ _ (by omega), ht6, jup_n _ _ (by omega), ht5, jup_n _ _ (by omega), ht4, jup_n _ _ (by omega), ht3, jup_n _ _ (by omega), ht2, jup_n _ _ (by omega), ht1, jup_n _ _ (by omega)]
          exact hR.kd p hp
        · intro p hp
          rw [ht15, jup_n _ _ (by omega), ht14, jup_n _ _ (by omega), ht13, jup_n _ _ (by omega), ht12, jup_n _ _ (by omega), ht11, jup_s, cpy_in0 (by omega), ht10, jup_n _ _ (by omega), ht9, jup_n _ _ (by omega), ht8, jup_n _ _ (by omega), ht7, jup_n _ _ (by omega), ht6, jup_n _ _ (by omega), ht5, jup_n _ _ (by omega), ht4, jup_n _ _ (by omega), ht3, jup_n _ _ (by omega), ht2, jup_n _ _ (by omega), ht1, jup_n _ _ (by omega)]
          exact hR.md p hp
        · intro p hp
          rw [ht15, jup_n _ _ (by omega), ht14, jup_n _ _ (by omega), ht13, jup_n _ _ (by omega), ht12, jup_s, cpy_in0 (by omega), ht11, jup_n _ _ (by omega), ht10, jup_n _ _ (by omega), ht9, jup_n _ _ (by omega), ht8, jup_n _ _ (by omega), ht7, jup_n _ _ (by omega), ht6, jup_n _ _ (by omega), ht5, jup_n _ _ (by omega), ht4, jup_n _ _ (by omega), ht3, jup_n _ _ (by omega), ht2, jup_n _ _ (by omega), ht1, jup_n _ _ (by omega)]
          exact hR.nd p hp
        · intro p hp
          rw [ht15, jup_n _ _ (by omega), ht14, jup_n _ _ (by omega), ht13, jup_s, cpy_in0 (by omega), ht12, jup_n _ _ (by omega), ht11, jup_n _ _ (by omega), ht10, jup_n _ _ (by omega), ht9, jup_n _ _ (by omega), ht8, jup_n _ _ (by omega), ht7, jup_n _ _ (by omega), ht6, jup_n _ _ (by omega), ht5, jup_n _ _ (by omega), ht4, jup_n _ _ (by omega), ht3, jup_n _ _ (by omega), ht2, jup_n _ _ (by omega), ht1, jup_n _ _ (by omega)]
          exact hR.hr p hp
        · intro p hp
          rw [ht15, jup_n _ _ (by omega), ht14, jup_s, cpy_in0 (by omega), ht13, jup_n _ _ (by omega), ht12, jup_n _ _ (by omega), ht11, jup_n _ _ (by omega), ht10, jup_n _ _ (by omega), ht9, jup_n _ _ (by omega), ht8, jup_n _ _ (by omega), ht7, jup_n _ _ (by omega), ht6, jup_n _ _ (by omega), ht5, jup_n _ _ (by omega), ht4, jup_n _ _ (by omega), ht3, jup_n _ _ (by omega), ht2, jup_n _ _ (by omega), ht1, jup_n _ _ (by omega)]
          exact hR.tk p hp
        · intro p hp
          rw [ht15, jup_s, cpy_in0 (by omega), ht14, jup_n _ _ (by omega), ht13, jup_n _ _ (by omega), ht12, jup_n _ _ (by omega), ht11, jup_n _ _ (by omega), ht10, jup_n _ _ (by omega), ht9, jup_n _ _ (by omega), ht8, jup_n _ _ (by omega), ht7, jup_n _ _ (by omega), ht6, jup_n _ _ (by omega), ht5, jup_n _ _ (by omega), ht4, jup_n _ _ (by omega), ht3, jup_n _ _ (by omega), ht2, jup_n _ _ (by omega), ht1, jup_n _ _ (by omega)]
          exact hR.hd p hp
        · rw [ht15, jup_n _ _ (by omega), ht14, jup_n _ _ (by omega), ht13, jup_n _ _ (by omega), ht12, jup_n _ _ (by omega), ht11, jup_n _ _ (by omega), ht10, jup_n _ _ (by omega), ht9, jup_n _ _ (by omega), ht8, jup_n _ _ (by omega), ht7, jup_n _ _ (by omega), ht6, jup_n _ _ (by omega), ht5, jup_s, upd_n _ _ (by decide), ht4, jup_s, upd_n _ _ (by decide), ht3, jup_s, upd_n _ _ (by decide), ht2, jup_s, upd_n _ _ (by decide), ht1, jup_s, upd_s]
        · intro c hc
          rw [ht15, jup_n _ _ (by omega), ht14, jup_n _ _ (by omega), ht13, jup_n _ _ (by omega), ht12, jup_n _ _ (by omega), ht11, jup_n _ _ (by omega), ht10, jup_n _ _ (by omega), ht9, jup_n _ _ (by omega), ht8, jup_n _ _ (by omega), ht7, jup_n _ _ (by omega), ht6, jup_n _ _ (by omega), ht5, jup_n _ _ (by omega), ht4, jup_n _ _ (by omega), ht3, jup_n _ _ (by omega), ht2, jup_n _ _ (by omega), ht1, jup_n _ _ (by omega)])

set_option maxHeartbeats 2000000 in
set_option maxRecDepth 20000 in
theorem s_Ckeep (kc : Nat) (hk : isK kc) (m : jM) (st : Nat → Int32) (V P : Nat) (hV : V ≤ 3) (hP : P ≤ 5) (hR : RK m kc st V P) (pg : Nat) (hpg : jlay pg = (0, 19)) (hfar : pg < kc ∨ kc + 10 < pg) : vX mX0_keep [.ref kc, .ref pg] m (fun m1 => PG m1 pg st V P ∧ ∀ c, c ≠ pg → m1 c = m c) := by
  refine jX_of (L := [some (.ref kc), some (.ref pg)]) 0 rfl rfl (by decide +kernel) rfl ?_
  refine e_aload_n dX0_keep_0 rfl ?_
  refine e_iconst (v := 0) dX0_keep_1 rfl ?_
  refine e_aload_n dX0_keep_2 rfl ?_
  refine e_getI dX0_keep_3 lkX0_44 (isK.l0 hk) rfl ?_
  refine e_iast dX0_keep_6 hpg 0 rfl (by decide) (by decide) (fun k1 hk1 => ?_)
  refine e_aload_n dX0_keep_7 rfl ?_
  refine e_getR (o := 7) (b := kc + 7) dX0_keep_8 lkX0_47 (isK.l0 hk) rfl (by decide) rfl ?_
  refine e_iconst (v := 0) dX0_keep_11 rfl ?_
  refine e_aload_n dX0_keep_12 rfl ?_
  refine e_iconst (v := 1) dX0_keep_13 rfl ?_
  refine e_iconst (v := 3) dX0_keep_14 rfl ?_
  refine e_copy dX0_keep_15 ckX0_66 (isK.l7 hk) hpg 0 1 3 rfl rfl rfl (by omega) (by omega) (by decide) (by decide) (Nat.le_of_ble_eq_true rfl) (Nat.le_of_ble_eq_true rfl) (fun k2 hk2 => ?_)
  refine e_aload_n dX0_keep_18 rfl ?_
  refine e_getR (o := 8) (b := kc + 8) dX0_keep_19 lkX0_50 (isK.l0 hk) rfl (by decide) rfl ?_
  refine e_iconst (v := 0) dX0_keep_22 rfl ?_
  refine e_aload_n dX0_keep_23 rfl ?_
  refine e_iconst (v := 4) dX0_keep_24 rfl ?_
  refine e_iconst (v := 5) dX0_keep_25 rfl ?_
  refine e_copy dX0_keep_26 ckX0_66 (isK.l8 hk) hpg 0 4 5 rfl rfl rfl (by omega) (by omega) (by decide) (by decide) (Nat.le_of_ble_eq_true rfl) (Nat.le_of_ble_eq_true rfl) (fun k3 hk3 => ?_)
  refine e_aload_n dX0_keep_29 rfl ?_
  refine e_getR (o := 9) (b := kc + 9) dX0_keep_30 lkX0_53 (isK.l0 hk) rfl (by decide) rfl ?_
  refine e_iconst (v := 0) dX0_keep_33 rfl ?_
  refine e_aload_n dX0_keep_34 rfl ?_
  refine e_bipush (v := 9) dX0_keep_35 rfl ?_
  refine e_iconst (v := 5) dX0_keep_37 rfl ?_
  refine e_copy dX0_keep_38 ckX0_66 (isK.l9 hk) hpg 0 9 5 rfl rfl rfl (by omega) (by omega) (by decide) (by decide) (Nat.le_of_ble_eq_true rfl) (Nat.le_of_ble_eq_true rfl) (fun k4 hk4 => ?_)
  refine e_aload_n dX0_keep_41 rfl ?_
  refine e_getR (o := 10) (b := kc + 10) dX0_keep_42 lkX0_56 (isK.l0 hk) rfl (by decide) rfl ?_
  refine e_iconst (v := 0) dX0_keep_45 rfl ?_
  refine e_aload_n dX0_keep_46 rfl ?_
  refine e_bipush (v := 14) dX0_keep_47 rfl ?_
  refine e_iconst (v := 5) dX0_keep_49 rfl ?_
  refine e_copy dX0_keep_50 ckX0_66 (isK.l10 hk) hpg 0 14 5 rfl rfl rfl (by omega) (by omega) (by decide) (by decide) (Nat.le_of_ble_eq_true rfl) (Nat.le_of_ble_eq_true rfl) (fun k5 hk5 => ?_)
  exact e_vret dX0_keep_53 rfl (by
        refine ⟨⟨?_, ?_, ?_, ?_, ?_⟩, fun c hc => by rw [hk5, jup_n _ _ hc, hk4, jup_n _ _ hc, hk3, jup_n _ _ hc, hk2, jup_n _ _ hc, hk1, jup_n _ _ hc]⟩
        · rw [hk5, jup_s, cpy_out (by omega), hk4, jup_s, cpy_out (by omega), hk3, jup_s, cpy_out (by omega), hk2, jup_s, cpy_out (by omega), hk1, jup_s, upd_s]
          exact hR.br
        · intro s hs
          rw [hk5, jup_s, cpy_out (by omega), hk4, jup_s, cpy_out (by omega), hk3, jup_s, cpy_out (by omega), hk2, jup_s, cpy_at (j := s) (by omega) rfl, Nat.zero_add, hk1, jup_n _ _ (by omega)]
          exact hR.sg s hs
        · intro p hp
          rw [hk5, jup_s, cpy_out (by omega), hk4, jup_s, cpy_out (by omega), hk3, jup_s, cpy_at (j := p) (by omega) rfl, Nat.zero_add, hk2, jup_n _ _ (by omega), hk1, jup_n _ _ (by omega)]
          exact hR.hr p hp
        · intro p hp
          rw [hk5, jup_s, cpy_out (by omega), hk4, jup_s, cpy_at (j := p) (by omega) rfl, Nat.zero_add, hk3, jup_n _ _ (by omega), hk2, jup_n _ _ (by omega), hk1, jup_n _ _ (by omega)]
          exact hR.tk p hp
        · intro p hp
          rw [hk5, jup_s, cpy_at (j := p) (by omega) rfl, Nat.zero_add, hk4, jup_n _ _ (by omega), hk3, jup_n _ _ (by omega), hk2, jup_n _ _ (by omega), hk1, jup_n _ _ (by omega)]
          exact hR.hd p hp)

set_option maxHeartbeats 2000000 in
set_option maxRecDepth 20000 in
theorem s_Cbring (kc : Nat) (hk : isK kc) (m : jM) (st : Nat → Int32) (V P : Nat) (hV : V ≤ 3) (hP : P ≤ 5) (hR : RK m kc st V P) (st' : Nat → Int32) (hS : SS st st') (pg : Nat) (hpg : jlay pg = (0, 19)) (hfar : pg < kc ∨ kc + 10 < pg) (hG : PG m pg st' V P) : vX mX0_bring [.ref kc, .ref pg] m (fun m1 => RK m1 kc st' V P ∧ KF kc m m1) := by
  refine jX_of (L := [some (.ref kc), some (.ref pg)]) 0 rfl rfl (by decide +kernel) rfl ?_
  refine e_aload_n dX0_bring_0 rfl ?_
  refine e_aload_n dX0_bring_1 rfl ?_
  refine e_iconst (v := 0) dX0_bring_2 rfl ?_
  refine e_iald dX0_bring_3 hpg 0 rfl (by decide) (by decide) ?_
  refine e_putI dX0_bring_4 lkX0_44 (isK.l0 hk) rfl fwX0_10 (Or.inl rfl) (fun b1 hb1 => ?_)
  refine e_aload_n dX0_bring_7 rfl ?_
  refine e_iconst (v := 1) dX0_bring_8 rfl ?_
  refine e_aload_n dX0_bring_9 rfl ?_
  refine e_getR (o := 7) (b := kc + 7) dX0_bring_10 lkX0_47 (isK.l0 hk) rfl (by decide) rfl ?_
  refine e_iconst (v := 0) dX0_bring_13 rfl ?_
  refine e_iconst (v := 3) dX0_bring_14 rfl ?_
  refine e_copy dX0_bring_15 ckX0_66 hpg (isK.l7 hk) 1 0 3 rfl rfl rfl (by omega) (by omega) (by decide) (by decide) (Nat.le_of_ble_eq_true rfl) (Nat.le_of_ble_eq_true rfl) (fun b2 hb2 => ?_)
  refine e_aload_n dX0_bring_18 rfl ?_
  refine e_iconst (v := 4) dX0_bring_19 rfl ?_
  refine e_aload_n dX0_bring_20 rfl ?_
  refine e_getR (o := 8) (b := kc + 8) dX0_bring_21 lkX0_50 (isK.l0 hk) rfl (by decide) rfl ?_
  refine e_iconst (v := 0) dX0_bring_24 rfl ?_
  refine e_iconst (v := 5) dX0_bring_25 rfl ?_
  refine e_copy dX0_bring_26 ckX0_66 hpg (isK.l8 hk) 4 0 5 rfl rfl rfl (by omega) (by omega) (by decide) (by decide) (Nat.le_of_ble_eq_true rfl) (Nat.le_of_ble_eq_true rfl) (fun b3 hb3 => ?_)
  refine e_aload_n dX0_bring_29 rfl ?_
  refine e_bipush (v := 9) dX0_bring_30 rfl ?_
  refine e_aload_n dX0_bring_32 rfl ?_
  refine e_getR (o := 9) (b := kc + 9) dX0_bring_33 lkX0_53 (isK.l0 hk) rfl (by decide) rfl ?_
  refine e_iconst (v := 0) dX0_bring_36 rfl ?_
  refine e_iconst (v := 5) dX0_bring_37 rfl ?_
  refine e_copy dX0_bring_38 ckX0_66 hpg (isK.l9 hk) 9 0 5 rfl rfl rfl (by omega) (by omega) (by decide) (by decide) (Nat.le_of_ble_eq_true rfl) (Nat.le_of_ble_eq_true rfl) (fun b4 hb4 => ?_)
  refine e_aload_n dX0_bring_41 rfl ?_
  refine e_bipush (v := 14) dX0_bring_42 rfl ?_
  refine e_aload_n dX0_bring_44 rfl ?_
  refine e_getR (o := 10) (b := kc + 10) dX0_bring_45 lkX0_56 (isK.l0 hk) rfl (by decide) rfl ?_
  refine e_iconst (v := 0) dX0_bring_48 rfl ?_
  refine e_iconst (v := 5) dX0_bring_49 rfl ?_
  refine e_copy dX0_bring_50 ckX0_66 hpg (isK.l10 hk) 14 0 5 rfl rfl rfl (by omega) (by omega) (by decide) (by decide) (Nat.le_of_ble_eq_true rfl) (Nat.le_of_ble_eq_true rfl) (fun b5 hb5 => ?_)
  exact e_vret dX0_bring_53 rfl (by
        refine ⟨⟨?_, ?_, ?_, ?_, ?_, ?_, ?_, ?_, ?_, ?_, ?_, ?_, ?_, ?_⟩, fun c hc => by rw [hb5, jup_n _ _ (by omega), hb4, jup_n _ _ (by omega), hb3, jup_n _ _ (by omega), hb2, jup_n _ _ (by omega), hb1, jup_n _ _ (by omega)], by rw [hb5, jup_n _ _ (by omega), hb4, jup_n _ _ (by omega), hb3, jup_n _ _ (by omega), hb2, jup_n _ _ (by omega), hb1, jup_s, upd_n _ _ (by decide)]⟩
        · rw [hb5, jup_n _ _ (by omega), hb4, jup_n _ _ (by omega), hb3, jup_n _ _ (by omega), hb2, jup_n _ _ (by omega), hb1, jup_s, upd_n _ _ (by decide)]
          exact hR.bk.trans (hS 0 (by decide)).symm
        · rw [hb5, jup_n _ _ (by omega), hb4, jup_n _ _ (by omega), hb3, jup_n _ _ (by omega), hb2, jup_n _ _ (by omega), hb1, jup_s, upd_n _ _ (by decide)]
          exact hR.vs
        · rw [hb5, jup_n _ _ (by omega), hb4, jup_n _ _ (by omega), hb3, jup_n _ _ (by omega), hb2, jup_n _ _ (by omega), hb1, jup_s, upd_n _ _ (by decide)]
          exact hR.ps
        · rw [hb5, jup_n _ _ (by omega), hb4, jup_n _ _ (by omega), hb3, jup_n _ _ (by omega), hb2, jup_n _ _ (by omega), hb1, jup_s, upd_s]
          exact hG.1
        · intro s hs
          rw [hb5, jup_n _ _ (by omega), hb4, jup_n _ _ (by omega), hb3, jup_n _ _ (by omega), hb2, jup_n _ _ (by omega), hb1, jup_n _ _ (by omega)]
          exact (hR.lo s hs).trans (hS _ (by omega)).symm
        · intro s hs
          rw [hb5, jup_n _ _ (by omega), hb4, jup_n _ _ (by omega), hb3, jup_n _ _ (by omega), hb2, jup_n _ _ (by omega), hb1, jup_n _ _ (by omega)]
          exact (hR.hi s hs).trans (hS _ (by omega)).symm
        · intro s hs
          rw [hb5, jup_n _ _ (by omega), hb4, jup_n _ _ (by omega), hb3, jup_n _ _ (by omega), hb2, jup_n _ _ (by omega), hb1, jup_n _ _ (by omega)]
          exact (hR.bt s hs).trans (hS _ (by omega)).symm
        · intro s hs
          rw [hb5, jup_n _ _ (by omega), hb4, jup_n _ _ (by omega), hb3, jup_n _ _ (by omega), hb2, jup_s, cpy_at (j := s) (by omega) (Nat.zero_add _), hb1, jup_n _ _ (by omega)]
          exact hG.2.1 s hs
        · intro p hp
          rw [hb5, jup_n _ _ (by omega), hb4, jup_n _ _ (by omega), hb3, jup_n _ _ (by omega), hb2, jup_n _ _ (by omega), hb1, jup_n _ _ (by omega)]
          exact (hR.kd p hp).trans (hS _ (by omega)).symm
        · intro p hp
          rw [hb5, jup_n _ _ (by omega), hb4, jup_n _ _ (by omega), hb3, jup_n _ _ (by omega), hb2, jup_n _ _ (by omega), hb1, jup_n _ _ (by omega)]
          exact (hR.md p hp).trans (hS _ (by omega)).symm
        · intro p hp
          rw [hb5, jup_n _ _ (by omega), hb4, jup_n _ _ (by omega), hb3, jup_n _ _ (by omega), hb2, jup_n _ _ (by omega), hb1, jup_n _ _ (by omega)]
          exact (hR.nd p hp).trans (hS _ (by omega)).symm
        · intro p hp
          rw [hb5, jup_n _ _ (by omega), hb4, jup_n _ _ (by omega), hb3, jup_s, cpy_at (j := p) (by omega) (Nat.zero_add _), hb2, jup_n _ _ (by omega), hb1, jup_n _ _ (by omega)]
          exact hG.2.2.1 p hp
        · intro p hp
          rw [hb5, jup_n _ _ (by omega), hb4, jup_s, cpy_at (j := p) (by omega) (Nat.zero_add _), hb3, jup_n _ _ (by omega), hb2, jup_n _ _ (by omega), hb1, jup_n _ _ (by omega)]
          exact hG.2.2.2.1 p hp
        · intro p hp
          rw [hb5, jup_s, cpy_at (j := p) (by omega) (Nat.zero_add _), hb4, jup_n _ _ (by omega), hb3, jup_n _ _ (by omega), hb2, jup_n _ _ (by omega), hb1, jup_n _ _ (by omega)]
          exact hG.2.2.2.2 p hp)
