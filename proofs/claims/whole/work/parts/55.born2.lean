set_option maxRecDepth 100000 in
set_option maxHeartbeats 4000000 in
theorem kX3_0 : gX mX3_init [.ref 0] (gm gz [(0, 0, none)]) 1 98 97 1312 (fun m1 => m1 = gm gz kX3) := by
  refine gX_of (L := [some (.ref 0), none]) 1 rfl rfl (by decide +kernel) rfl ?_
  refine g_aload_n dX3_init_0 rfl ?_
  refine g_objInit dX3_init_1 (List.mem_of_getElem? (i := 9) (by decide +kernel)) (Nat.le_of_ble_eq_true rfl) (Nat.le_of_ble_eq_true rfl) ?_
  refine g_aload_n dX3_init_4 rfl ?_
  refine g_bipush (v := 8) dX3_init_5 rfl ?_
  refine g_newqq (c1 := 1) (kd := 2) (N := 8) (Cn := RX1) dX3_init_7 (List.mem_of_getElem? (i := 12) (by decide +kernel)) (fun _ h => h.1) (by decide) (fun _ _ h => by obtain ⟨_, _, _, _, _, q⟩ := (h.2 2 _ rfl).2; exact q) rfl (by decide) (by decide) (by decide) rfl (Nat.le_of_ble_eq_true rfl) (Nat.le_of_ble_eq_true rfl) ?_
  refine g_putRq (o := 1) dX3_init_10 lkX3_11 (rfl : jlay 0 = (5, 3)) (Nat.le_of_ble_eq_true rfl) rfl (by decide) rfl (fun _ => ⟨rfl, rfl⟩) rfl (fun _ _ _ h => by cases h; exact ⟨rfl, rfl⟩) ?_
  refine g_aload_n dX3_init_13 rfl ?_
  refine g_newo (c1 := 18) (ci := 2) dX3_init_14 (rfl : jCl[2]? = some (RX2, TX2, 7)) (List.mem_of_getElem? (i := 14) (by decide +kernel)) (List.mem_of_getElem? (i := 15) (by decide +kernel)) (List.mem_of_getElem? (i := 16) (by decide +kernel)) rfl rfl (Nat.le_of_ble_eq_true rfl) (Nat.le_of_ble_eq_true rfl) ?_
  refine g_dup dX3_init_17 rfl ?_
  refine g_callNq mX2_init (A := kX2 18) (t1 := 4) (mc := 1) (ms := 120) dX3_init_18 (fun _ h => h.2.2.2.1) (List.mem_of_getElem? (i := 16) (by decide +kernel)) (List.mem_of_getElem? (i := 41) (by decide +kernel)) cd_mX2_init rfl rfl (by decide +kernel) (by decide) (Nat.le_of_ble_eq_true rfl) ⟨(Nat.le_of_ble_eq_true rfl), (Nat.le_of_ble_eq_true rfl)⟩ kX2_18 ?_
  refine g_putRq (o := 18) dX3_init_21 lkX3_18 (rfl : jlay 0 = (5, 3)) (Nat.le_of_ble_eq_true rfl) rfl (by decide) rfl (fun _ => ⟨rfl, rfl⟩) rfl (fun _ _ _ h => by cases h; exact ⟨rfl, rfl⟩) ?_
  refine g_aload_n dX3_init_24 rfl ?_
  refine g_newo (c1 := 20) (ci := 0) dX3_init_25 (rfl : jCl[0]? = some (RX0, TX0, 15)) (List.mem_of_getElem? (i := 18) (by decide +kernel)) (List.mem_of_getElem? (i := 19) (by decide +kernel)) (List.mem_of_getElem? (i := 20) (by decide +kernel)) rfl rfl (Nat.le_of_ble_eq_true rfl) (Nat.le_of_ble_eq_true rfl) ?_
  refine g_dup dX3_init_28 rfl ?_
  refine g_callNq mX0_init (A := kX0 20) (t1 := 15) (mc := 10) (ms := 42) dX3_init_29 (fun _ h => h.2.2.2.2.1) (List.mem_of_getElem? (i := 20) (by decide +kernel)) (List.mem_of_getElem? (i := 51) (by decide +kernel)) cd_mX0_init rfl rfl (by decide +kernel) (by decide) (Nat.le_of_ble_eq_true rfl) ⟨(Nat.le_of_ble_eq_true rfl), (Nat.le_of_ble_eq_true rfl)⟩ kX0_20 ?_
  refine g_putRq (o := 20) dX3_init_32 lkX3_25 (rfl : jlay 0 = (5, 3)) (Nat.le_of_ble_eq_true rfl) rfl (by decide) rfl (fun _ => ⟨rfl, rfl⟩) rfl (fun _ _ _ h => by cases h; exact ⟨rfl, rfl⟩) ?_
  refine g_aload_n dX3_init_35 rfl ?_
  refine g_newo (c1 := 31) (ci := 0) dX3_init_36 (rfl : jCl[0]? = some (RX0, TX0, 15)) (List.mem_of_getElem? (i := 18) (by decide +kernel)) (List.mem_of_getElem? (i := 19) (by decide +kernel)) (List.mem_of_getElem? (i := 20) (by decide +kernel)) rfl rfl (Nat.le_of_ble_eq_true rfl) (Nat.le_of_ble_eq_true rfl) ?_
  refine g_dup dX3_init_39 rfl ?_
  refine g_callNq mX0_init (A := kX0 31) (t1 := 26) (mc := 10) (ms := 42) dX3_init_40 (fun _ h => h.2.2.2.2.1) (List.mem_of_getElem? (i := 20) (by decide +kernel)) (List.mem_of_getElem? (i := 51) (by decide +kernel)) cd_mX0_init rfl rfl (by decide +kernel) (by decide) (Nat.le_of_ble_eq_true rfl) ⟨(Nat.le_of_ble_eq_true rfl), (Nat.le_of_ble_eq_true rfl)⟩ kX0_31 ?_
  refine g_putRq (o := 31) dX3_init_43 lkX3_29 (rfl : jlay 0 = (5, 3)) (Nat.le_of_ble_eq_true rfl) rfl (by decide) rfl (fun _ => ⟨rfl, rfl⟩) rfl (fun _ _ _ h => by cases h; exact ⟨rfl, rfl⟩) ?_
  refine g_aload_n dX3_init_46 rfl ?_
  refine g_iconst (v := 2) dX3_init_47 rfl ?_
  refine g_newqq (c1 := 42) (kd := 3) (N := 2) (Cn := RX0) dX3_init_48 (List.mem_of_getElem? (i := 18) (by decide +kernel)) (fun _ h => h.2.1) (by decide) (fun _ _ h => by obtain ⟨_, _, _, _, _, q⟩ := (h.2 3 _ rfl).2; exact q) rfl (by decide) (by decide) (by decide) rfl (Nat.le_of_ble_eq_true rfl) (Nat.le_of_ble_eq_true rfl) ?_
  refine g_putRq (o := 42) dX3_init_51 lkX3_32 (rfl : jlay 0 = (5, 3)) (Nat.le_of_ble_eq_true rfl) rfl (by decide) rfl (fun _ => ⟨rfl, rfl⟩) rfl (fun _ _ _ h => by cases h; exact ⟨rfl, rfl⟩) ?_
  refine g_aload_n dX3_init_54 rfl ?_
  refine g_bipush (v := 24) dX3_init_55 rfl ?_
  refine g_bipush (v := 19) dX3_init_57 rfl ?_
  refine g_mnaq (c1 := 65) (N := 24) (K := 19) dX3_init_59 (List.mem_of_getElem? (i := 24) (by decide +kernel)) (List.mem_of_getElem? (i := 25) (by decide +kernel)) rfl (by decide +kernel) (by decide) (by decide) (by decide) (by decide) (by decide) (by decide) (by decide) rfl (by decide +kernel) (by decide +kernel) (Nat.le_of_ble_eq_true rfl) (Nat.le_of_ble_eq_true rfl) rfl ?_
  refine g_putRq (o := 65) dX3_init_63 lkX3_38 (rfl : jlay 0 = (5, 3)) (Nat.le_of_ble_eq_true rfl) rfl (by decide) rfl (fun _ => ⟨rfl, rfl⟩) rfl (fun _ _ _ h => by cases h; exact ⟨rfl, rfl⟩) ?_
  refine g_aload_n dX3_init_66 rfl ?_
  refine g_iconst (v := 0) dX3_init_67 rfl ?_
  refine g_putIq dX3_init_68 lkX3_41 (rfl : jlay 0 = (5, 3)) (Nat.le_of_ble_eq_true rfl) rfl ⟨rfl, rfl⟩ fwX3_6 ?_
  refine g_aload_n dX3_init_71 rfl ?_
  refine g_iconst (v := 0) dX3_init_72 rfl ?_
  refine g_putIq dX3_init_73 lkX3_45 (rfl : jlay 0 = (5, 3)) (Nat.le_of_ble_eq_true rfl) rfl ⟨rfl, rfl⟩ fwX3_7 ?_
  refine g_aload_n dX3_init_76 rfl ?_
  refine g_iconst (v := 3) dX3_init_77 rfl ?_
  refine g_newI (c1 := 90) (N := 3) dX3_init_78 rfl (by decide) (by decide) rfl (Nat.le_of_ble_eq_true rfl) (Nat.le_of_ble_eq_true rfl) (Nat.le_of_ble_eq_true rfl) ?_
  refine g_putRq (o := 90) dX3_init_80 lkX3_48 (rfl : jlay 0 = (5, 3)) (Nat.le_of_ble_eq_true rfl) rfl (by decide) rfl (fun _ => ⟨rfl, rfl⟩) rfl (fun _ _ _ h => by cases h; exact ⟨rfl, rfl⟩) ?_
  refine g_aload_n dX3_init_83 rfl ?_
  refine g_bipush (v := 16) dX3_init_84 rfl ?_
  refine g_newI (c1 := 91) (N := 16) dX3_init_86 rfl (by decide) (by decide) rfl (Nat.le_of_ble_eq_true rfl) (Nat.le_of_ble_eq_true rfl) (Nat.le_of_ble_eq_true rfl) ?_
  refine g_putRq (o := 91) dX3_init_88 lkX3_52 (rfl : jlay 0 = (5, 3)) (Nat.le_of_ble_eq_true rfl) rfl (by decide) rfl (fun _ => ⟨rfl, rfl⟩) rfl (fun _ _ _ h => by cases h; exact ⟨rfl, rfl⟩) ?_
  refine g_aload_n dX3_init_91 rfl ?_
  refine g_iconst (v := 4) dX3_init_92 rfl ?_
  refine g_bipush (v := 19) dX3_init_93 rfl ?_
  refine g_mnaq (c1 := 92) (N := 4) (K := 19) dX3_init_95 (List.mem_of_getElem? (i := 24) (by decide +kernel)) (List.mem_of_getElem? (i := 25) (by decide +kernel)) rfl (by decide +kernel) (by decide) (by decide) (by decide) (by decide) (by decide) (by decide) (by decide) rfl (by decide +kernel) (by decide +kernel) (Nat.le_of_ble_eq_true rfl) (Nat.le_of_ble_eq_true rfl) rfl ?_
  refine g_putRq (o := 92) dX3_init_99 lkX3_55 (rfl : jlay 0 = (5, 3)) (Nat.le_of_ble_eq_true rfl) rfl (by decide) rfl (fun _ => ⟨rfl, rfl⟩) rfl (fun _ _ _ h => by cases h; exact ⟨rfl, rfl⟩) ?_
  refine g_aload_n dX3_init_102 rfl ?_
  refine g_iconst (v := 0) dX3_init_103 rfl ?_
  refine g_putIq dX3_init_104 lkX3_58 (rfl : jlay 0 = (5, 3)) (Nat.le_of_ble_eq_true rfl) rfl ⟨rfl, rfl⟩ fwX3_11 ?_
  refine g_aload_n dX3_init_107 rfl ?_
  refine g_iconst (v := 0) dX3_init_108 rfl ?_
  refine g_putIq dX3_init_109 lkX3_61 (rfl : jlay 0 = (5, 3)) (Nat.le_of_ble_eq_true rfl) rfl ⟨rfl, rfl⟩ fwX3_12 ?_
  refine g_aload_n dX3_init_112 rfl ?_
  refine g_iconst (v := 0) dX3_init_113 rfl ?_
  refine g_putIq dX3_init_114 lkX3_64 (rfl : jlay 0 = (5, 3)) (Nat.le_of_ble_eq_true rfl) rfl ⟨rfl, rfl⟩ fwX3_13 ?_
  refine g_aload_n dX3_init_117 rfl ?_
  refine g_bipush (v := 16) dX3_init_118 rfl ?_
  refine g_newI (c1 := 97) (N := 16) dX3_init_120 rfl (by decide) (by decide) rfl (Nat.le_of_ble_eq_true rfl) (Nat.le_of_ble_eq_true rfl) (Nat.le_of_ble_eq_true rfl) ?_
  refine g_putRq (o := 97) dX3_init_122 lkX3_67 (rfl : jlay 0 = (5, 3)) (Nat.le_of_ble_eq_true rfl) rfl (by decide) rfl (fun _ => ⟨rfl, rfl⟩) rfl (fun _ _ _ h => by cases h; exact ⟨rfl, rfl⟩) ?_
  refine g_aload_n dX3_init_125 rfl ?_
  refine g_iconst (v := 0) dX3_init_126 rfl ?_
  refine g_putIq dX3_init_127 lkX3_70 (rfl : jlay 0 = (5, 3)) (Nat.le_of_ble_eq_true rfl) rfl ⟨rfl, rfl⟩ fwX3_15 ?_
  refine g_aload_n dX3_init_130 rfl ?_
  refine g_iconst (v := 0) dX3_init_131 rfl ?_
  refine g_putIq dX3_init_132 lkX3_73 (rfl : jlay 0 = (5, 3)) (Nat.le_of_ble_eq_true rfl) rfl ⟨rfl, rfl⟩ fwX3_16 ?_
  refine g_aload_n dX3_init_135 rfl ?_
  refine g_iconst (v := 0) dX3_init_136 rfl ?_
  refine g_putIq dX3_init_137 lkX3_76 (rfl : jlay 0 = (5, 3)) (Nat.le_of_ble_eq_true rfl) rfl ⟨rfl, rfl⟩ fwX3_17 ?_
  refine g_iconst (v := 0) dX3_init_140 rfl ?_
  refine g_istore_n (L' := [some (.ref 0), some (.int 0)]) dX3_init_141 (Nat.le_of_ble_eq_true rfl) (Nat.le_of_ble_eq_true rfl) (jnl_at (i := 0) rfl) rfl ?_
  refine g_iload_n dX3_init_142 rfl ?_
  refine g_bipush (v := 8) dX3_init_143 rfl ?_
  refine g_icmp_ge 167 dX3_init_145 (by decide) (fun h => absurd h (by decide)) (fun _ => ?_)
  refine g_aload_n dX3_init_148 rfl ?_
  refine g_getR (o := 1) (b := 1) dX3_init_149 lkX3_11 rfl rfl (by decide) rfl (Nat.le_of_ble_eq_true rfl) (by decide +kernel) ?_
  refine g_iload_n dX3_init_152 rfl ?_
  refine g_newo (c1 := 2) (ci := 1) dX3_init_153 (rfl : jCl[1]? = some (RX1, TX1, 4)) (List.mem_of_getElem? (i := 12) (by decide +kernel)) (List.mem_of_getElem? (i := 39) (by decide +kernel)) (List.mem_of_getElem? (i := 40) (by decide +kernel)) rfl rfl (Nat.le_of_ble_eq_true rfl) (Nat.le_of_ble_eq_true rfl) ?_
  refine g_dup dX3_init_156 rfl ?_
  refine g_callNq mX1_init (A := kX1 2) (t1 := 62) (mc := 1) (ms := 40) dX3_init_157 (fun _ h => h.2.2.2.2.2) (List.mem_of_getElem? (i := 40) (by decide +kernel)) (List.mem_of_getElem? (i := 69) (by decide +kernel)) cd_mX1_init rfl rfl (by decide +kernel) (by decide) (Nat.le_of_ble_eq_true rfl) ⟨(Nat.le_of_ble_eq_true rfl), (Nat.le_of_ble_eq_true rfl)⟩ kX1_2 ?_
  refine g_aastq (n := 8) (kd := 2) (ci := 1) dX3_init_160 rfl (by decide) (Nat.le_of_ble_eq_true rfl) rfl (Nat.le_of_ble_eq_true rfl) rfl (fun _ => rfl) 0 rfl (by decide) (by decide) rfl ?_
  refine g_iinc (v := 1) (L' := [some (.ref 0), some (.int 1)]) dX3_init_161 rfl (by decide) (by decide) (jnl_at (i := 0) rfl) rfl ?_
  refine g_goto 142 dX3_init_164 (by decide) ?_
  refine g_iload_n dX3_init_142 rfl ?_
  refine g_bipush (v := 8) dX3_init_143 rfl ?_
  refine g_icmp_ge 167 dX3_init_145 (by decide) (fun h => absurd h (by decide)) (fun _ => ?_)
  refine g_aload_n dX3_init_148 rfl ?_
  refine g_getR (o := 1) (b := 1) dX3_init_149 lkX3_11 rfl rfl (by decide) rfl (Nat.le_of_ble_eq_true rfl) (by decide +kernel) ?_
  refine g_iload_n dX3_init_152 rfl ?_
  refine g_newo (c1 := 4) (ci := 1) dX3_init_153 (rfl : jCl[1]? = some (RX1, TX1, 4)) (List.mem_of_getElem? (i := 12) (by decide +kernel)) (List.mem_of_getElem? (i := 39) (by decide +kernel)) (List.mem_of_getElem? (i := 40) (by decide +kernel)) rfl rfl (Nat.le_of_ble_eq_true rfl) (Nat.le_of_ble_eq_true rfl) ?_
  refine g_dup dX3_init_156 rfl ?_
  refine g_callNq mX1_init (A := kX1 4) (t1 := 64) (mc := 1) (ms := 40) dX3_init_157 (fun _ h => h.2.2.2.2.2) (List.mem_of_getElem? (i := 40) (by decide +kernel)) (List.mem_of_getElem? (i := 69) (by decide +kernel)) cd_mX1_init rfl rfl (by decide +kernel) (by decide) (Nat.le_of_ble_eq_true rfl) ⟨(Nat.le_of_ble_eq_true rfl), (Nat.le_of_ble_eq_true rfl)⟩ kX1_4 ?_
  refine g_aastq (n := 8) (kd := 2) (ci := 1) dX3_init_160 rfl (by decide) (Nat.le_of_ble_eq_true rfl) rfl (Nat.le_of_ble_eq_true rfl) rfl (fun _ => rfl) 1 rfl (by decide) (by decide) rfl ?_
  refine g_iinc (v := 2) (L' := [some (.ref 0), some (.int 2)]) dX3_init_161 rfl (by decide) (by decide) (jnl_at (i := 0) rfl) rfl ?_
  refine g_goto 142 dX3_init_164 (by decide) ?_
  refine g_iload_n dX3_init_142 rfl ?_
  refine g_bipush (v := 8) dX3_init_143 rfl ?_
  refine g_icmp_ge 167 dX3_init_145 (by decide) (fun h => absurd h (by decide)) (fun _ => ?_)
  refine g_aload_n dX3_init_148 rfl ?_
  refine g_getR (o := 1) (b := 1) dX3_init_149 lkX3_11 rfl rfl (by decide) rfl (Nat.le_of_ble_eq_true rfl) (by decide +kernel) ?_
  refine g_iload_n dX3_init_152 rfl ?_
  refine g_newo (c1 := 6) (ci := 1) dX3_init_153 (rfl : jCl[1]? = some (RX1, TX1, 4)) (List.mem_of_getElem? (i := 12) (by decide +kernel)) (List.mem_of_getElem? (i := 39) (by decide +kernel)) (List.mem_of_getElem? (i := 40) (by decide +kernel)) rfl rfl (Nat.le_of_ble_eq_true rfl) (Nat.le_of_ble_eq_true rfl) ?_
  refine g_dup dX3_init_156 rfl ?_
  refine g_callNq mX1_init (A := kX1 6) (t1 := 66) (mc := 1) (ms := 40) dX3_init_157 (fun _ h => h.2.2.2.2.2) (List.mem_of_getElem? (i := 40) (by decide +kernel)) (List.mem_of_getElem? (i := 69) (by decide +kernel)) cd_mX1_init rfl rfl (by decide +kernel) (by decide) (Nat.le_of_ble_eq_true rfl) ⟨(Nat.le_of_ble_eq_true rfl), (Nat.le_of_ble_eq_true rfl)⟩ kX1_6 ?_
  refine g_aastq (n := 8) (kd := 2) (ci := 1) dX3_init_160 rfl (by decide) (Nat.le_of_ble_eq_true rfl) rfl (Nat.le_of_ble_eq_true rfl) rfl (fun _ => rfl) 2 rfl (by decide) (by decide) rfl ?_
  refine g_iinc (v := 3) (L' := [some (.ref 0), some (.int 3)]) dX3_init_161 rfl (by decide) (by decide) (jnl_at (i := 0) rfl) rfl ?_
  refine g_goto 142 dX3_init_164 (by decide) ?_
  refine g_iload_n dX3_init_142 rfl ?_
  refine g_bipush (v := 8) dX3_init_143 rfl ?_
  refine g_icmp_ge 167 dX3_init_145 (by decide) (fun h => absurd h (by decide)) (fun _ => ?_)
  refine g_aload_n dX3_init_148 rfl ?_
  refine g_getR (o := 1) (b := 1) dX3_init_149 lkX3_11 rfl rfl (by decide) rfl (Nat.le_of_ble_eq_true rfl) (by decide +kernel) ?_
  refine g_iload_n dX3_init_152 rfl ?_
  refine g_newo (c1 := 8) (ci := 1) dX3_init_153 (rfl : jCl[1]? = some (RX1, TX1, 4)) (List.mem_of_getElem? (i := 12) (by decide +kernel)) (List.mem_of_getElem? (i := 39) (by decide +kernel)) (List.mem_of_getElem? (i := 40) (by decide +kernel)) rfl rfl (Nat.le_of_ble_eq_true rfl) (Nat.le_of_ble_eq_true rfl) ?_
  refine g_dup dX3_init_156 rfl ?_
  refine g_callNq mX1_init (A := kX1 8) (t1 := 68) (mc := 1) (ms := 40) dX3_init_157 (fun _ h => h.2.2.2.2.2) (List.mem_of_getElem? (i := 40) (by decide +kernel)) (List.mem_of_getElem? (i := 69) (by decide +kernel)) cd_mX1_init rfl rfl (by decide +kernel) (by decide) (Nat.le_of_ble_eq_true rfl) ⟨(Nat.le_of_ble_eq_true rfl), (Nat.le_of_ble_eq_true rfl)⟩ kX1_8 ?_
  refine g_aastq (n := 8) (kd := 2) (ci := 1) dX3_init_160 rfl (by decide) (Nat.le_of_ble_eq_true rfl) rfl (Nat.le_of_ble_eq_true rfl) rfl (fun _ => rfl) 3 rfl (by decide) (by decide) rfl ?_
  refine g_iinc (v := 4) (L' := [some (.ref 0), some (.int 4)]) dX3_init_161 rfl (by decide) (by decide) (jnl_at (i := 0) rfl) rfl ?_
  refine g_goto 142 dX3_init_164 (by decide) ?_
  refine g_iload_n dX3_init_142 rfl ?_
  refine g_bipush (v := 8) dX3_init_143 rfl ?_
  refine g_icmp_ge 167 dX3_init_145 (by decide) (fun h => absurd h (by decide)) (fun _ => ?_)
  refine g_aload_n dX3_init_148 rfl ?_
  refine g_getR (o := 1) (b := 1) dX3_init_149 lkX3_11 rfl rfl (by decide) rfl (Nat.le_of_ble_eq_true rfl) (by decide +kernel) ?_
  refine g_iload_n dX3_init_152 rfl ?_
  refine g_newo (c1 := 10) (ci := 1) dX3_init_153 (rfl : jCl[1]? = some (RX1, TX1, 4)) (List.mem_of_getElem? (i := 12) (by decide +kernel)) (List.mem_of_getElem? (i := 39) (by decide +kernel)) (List.mem_of_getElem? (i := 40) (by decide +kernel)) rfl rfl (Nat.le_of_ble_eq_true rfl) (Nat.le_of_ble_eq_true rfl) ?_
  refine g_dup dX3_init_156 rfl ?_
  refine g_callNq mX1_init (A := kX1 10) (t1 := 70) (mc := 1) (ms := 40) dX3_init_157 (fun _ h => h.2.2.2.2.2) (List.mem_of_getElem? (i := 40) (by decide +kernel)) (List.mem_of_getElem? (i := 69) (by decide +kernel)) cd_mX1_init rfl rfl (by decide +kernel) (by decide) (Nat.le_of_ble_eq_true rfl) ⟨(Nat.le_of_ble_eq_true rfl), (Nat.le_of_ble_eq_true rfl)⟩ kX1_10 ?_
  refine g_aastq (n := 8) (kd := 2) (ci := 1) dX3_init_160 rfl (by decide) (Nat.le_of_ble_eq_true rfl) rfl (Nat.le_of_ble_eq_true rfl) rfl (fun _ => rfl) 4 rfl (by decide) (by decide) rfl ?_
  refine g_iinc (v := 5) (L' := [some (.ref 0), some (.int 5)]) dX3_init_161 rfl (by decide) (by decide) (jnl_at (i := 0) rfl) rfl ?_
  refine g_goto 142 dX3_init_164 (by decide) ?_
  refine g_iload_n dX3_init_142 rfl ?_
  refine g_bipush (v := 8) dX3_init_143 rfl ?_
  refine g_icmp_ge 167 dX3_init_145 (by decide) (fun h => absurd h (by decide)) (fun _ => ?_)
  refine g_aload_n dX3_init_148 rfl ?_
  refine g_getR (o := 1) (b := 1) dX3_init_149 lkX3_11 rfl rfl (by decide) rfl (Nat.le_of_ble_eq_true rfl) (by decide +kernel) ?_
  refine g_iload_n dX3_init_152 rfl ?_
  refine g_newo (c1 := 12) (ci := 1) dX3_init_153 (rfl : jCl[1]? = some (RX1, TX1, 4)) (List.mem_of_getElem? (i := 12) (by decide +kernel)) (List.mem_of_getElem? (i := 39) (by decide +kernel)) (List.mem_of_getElem? (i := 40) (by decide +kernel)) rfl rfl (Nat.le_of_ble_eq_true rfl) (Nat.le_of_ble_eq_true rfl) ?_
  refine g_dup dX3_init_156 rfl ?_
  refine g_callNq mX1_init (A := kX1 12) (t1 := 72) (mc := 1) (ms := 40) dX3_init_157 (fun _ h => h.2.2.2.2.2) (List.mem_of_getElem? (i := 40) (by decide +kernel)) (List.mem_of_getElem? (i := 69) (by decide +kernel)) cd_mX1_init rfl rfl (by decide +kernel) (by decide) (Nat.le_of_ble_eq_true rfl) ⟨(Nat.le_of_ble_eq_true rfl), (Nat.le_of_ble_eq_true rfl)⟩ kX1_12 ?_
  refine g_aastq (n := 8) (kd := 2) (ci := 1) dX3_init_160 rfl (by decide) (Nat.le_of_ble_eq_true rfl) rfl (Nat.le_of_ble_eq_true rfl) rfl (fun _ => rfl) 5 rfl (by decide) (by decide) rfl ?_
  refine g_iinc (v := 6) (L' := [some (.ref 0), some (.int 6)]) dX3_init_161 rfl (by decide) (by decide) (jnl_at (i := 0) rfl) rfl ?_
  refine g_goto 142 dX3_init_164 (by decide) ?_
  refine g_iload_n dX3_init_142 rfl ?_
  refine g_bipush (v := 8) dX3_init_143 rfl ?_
  refine g_icmp_ge 167 dX3_init_145 (by decide) (fun h => absurd h (by decide)) (fun _ => ?_)
  refine g_aload_n dX3_init_148 rfl ?_
  refine g_getR (o := 1) (b := 1) dX3_init_149 lkX3_11 rfl rfl (by decide) rfl (Nat.le_of_ble_eq_true rfl) (by decide +kernel) ?_
  refine g_iload_n dX3_init_152 rfl ?_
  refine g_newo (c1 := 14) (ci := 1) dX3_init_153 (rfl : jCl[1]? = some (RX1, TX1, 4)) (List.mem_of_getElem? (i := 12) (by decide +kernel)) (List.mem_of_getElem? (i := 39) (by decide +kernel)) (List.mem_of_getElem? (i := 40) (by decide +kernel)) rfl rfl (Nat.le_of_ble_eq_true rfl) (Nat.le_of_ble_eq_true rfl) ?_
  refine g_dup dX3_init_156 rfl ?_
  refine g_callNq mX1_init (A := kX1 14) (t1 := 74) (mc := 1) (ms := 40) dX3_init_157 (fun _ h => h.2.2.2.2.2) (List.mem_of_getElem? (i := 40) (by decide +kernel)) (List.mem_of_getElem? (i := 69) (by decide +kernel)) cd_mX1_init rfl rfl (by decide +kernel) (by decide) (Nat.le_of_ble_eq_true rfl) ⟨(Nat.le_of_ble_eq_true rfl), (Nat.le_of_ble_eq_true rfl)⟩ kX1_14 ?_
  refine g_aastq (n := 8) (kd := 2) (ci := 1) dX3_init_160 rfl (by decide) (Nat.le_of_ble_eq_true rfl) rfl (Nat.le_of_ble_eq_true rfl) rfl (fun _ => rfl) 6 rfl (by decide) (by decide) rfl ?_
  refine g_iinc (v := 7) (L' := [some (.ref 0), some (.int 7)]) dX3_init_161 rfl (by decide) (by decide) (jnl_at (i := 0) rfl) rfl ?_
  refine g_goto 142 dX3_init_164 (by decide) ?_
  refine g_iload_n dX3_init_142 rfl ?_
  refine g_bipush (v := 8) dX3_init_143 rfl ?_
  refine g_icmp_ge 167 dX3_init_145 (by decide) (fun h => absurd h (by decide)) (fun _ => ?_)
  refine g_aload_n dX3_init_148 rfl ?_
  refine g_getR (o := 1) (b := 1) dX3_init_149 lkX3_11 rfl rfl (by decide) rfl (Nat.le_of_ble_eq_true rfl) (by decide +kernel) ?_
  refine g_iload_n dX3_init_152 rfl ?_
  refine g_newo (c1 := 16) (ci := 1) dX3_init_153 (rfl : jCl[1]? = some (RX1, TX1, 4)) (List.mem_of_getElem? (i := 12) (by decide +kernel)) (List.mem_of_getElem? (i := 39) (by decide +kernel)) (List.mem_of_getElem? (i := 40) (by decide +kernel)) rfl rfl (Nat.le_of_ble_eq_true rfl) (Nat.le_of_ble_eq_true rfl) ?_
  refine g_dup dX3_init_156 rfl ?_
  refine g_callNq mX1_init (A := kX1 16) (t1 := 76) (mc := 1) (ms := 40) dX3_init_157 (fun _ h => h.2.2.2.2.2) (List.mem_of_getElem? (i := 40) (by decide +kernel)) (List.mem_of_getElem? (i := 69) (by decide +kernel)) cd_mX1_init rfl rfl (by decide +kernel) (by decide) (Nat.le_of_ble_eq_true rfl) ⟨(Nat.le_of_ble_eq_true rfl), (Nat.le_of_ble_eq_true rfl)⟩ kX1_16 ?_
  refine g_aastq (n := 8) (kd := 2) (ci := 1) dX3_init_160 rfl (by decide) (Nat.le_of_ble_eq_true rfl) rfl (Nat.le_of_ble_eq_true rfl) rfl (fun _ => rfl) 7 rfl (by decide) (by decide) rfl ?_
  refine g_iinc (v := 8) (L' := [some (.ref 0), some (.int 8)]) dX3_init_161 rfl (by decide) (by decide) (jnl_at (i := 0) rfl) rfl ?_
  refine g_goto 142 dX3_init_164 (by decide) ?_
  refine g_iload_n dX3_init_142 rfl ?_
  refine g_bipush (v := 8) dX3_init_143 rfl ?_
  refine g_icmp_ge 167 dX3_init_145 (by decide) (fun _ => ?_) (fun h => absurd (by decide) h)
  refine g_iconst (v := 0) dX3_init_167 rfl ?_
  refine g_istore_n (L' := [some (.ref 0), some (.int 0)]) dX3_init_168 (Nat.le_of_ble_eq_true rfl) (Nat.le_of_ble_eq_true rfl) (jnl_at (i := 0) rfl) rfl ?_
  refine g_iload_n dX3_init_169 rfl ?_
  refine g_iconst (v := 2) dX3_init_170 rfl ?_
  refine g_icmp_ge 193 dX3_init_171 (by decide) (fun h => absurd h (by decide)) (fun _ => ?_)
  refine g_aload_n dX3_init_174 rfl ?_
  refine g_getR (o := 42) (b := 42) dX3_init_175 lkX3_32 rfl rfl (by decide) rfl (Nat.le_of_ble_eq_true rfl) (by decide +kernel) ?_
  refine g_iload_n dX3_init_178 rfl ?_
  refine g_newo (c1 := 43) (ci := 0) dX3_init_179 (rfl : jCl[0]? = some (RX0, TX0, 15)) (List.mem_of_getElem? (i := 18) (by decide +kernel)) (List.mem_of_getElem? (i := 19) (by decide +kernel)) (List.mem_of_getElem? (i := 20) (by decide +kernel)) rfl rfl (Nat.le_of_ble_eq_true rfl) (Nat.le_of_ble_eq_true rfl) ?_
  refine g_dup dX3_init_182 rfl ?_
  refine g_callNq mX0_init (A := kX0 43) (t1 := 87) (mc := 10) (ms := 42) dX3_init_183 (fun _ h => h.2.2.2.2.1) (List.mem_of_getElem? (i := 20) (by decide +kernel)) (List.mem_of_getElem? (i := 51) (by decide +kernel)) cd_mX0_init rfl rfl (by decide +kernel) (by decide) (Nat.le_of_ble_eq_true rfl) ⟨(Nat.le_of_ble_eq_true rfl), (Nat.le_of_ble_eq_true rfl)⟩ kX0_43 ?_
  refine g_aastq (n := 2) (kd := 3) (ci := 0) dX3_init_186 rfl (by decide) (Nat.le_of_ble_eq_true rfl) rfl (Nat.le_of_ble_eq_true rfl) rfl (fun _ => rfl) 0 rfl (by decide) (by decide) rfl ?_
  refine g_iinc (v := 1) (L' := [some (.ref 0), some (.int 1)]) dX3_init_187 rfl (by decide) (by decide) (jnl_at (i := 0) rfl) rfl ?_
  refine g_goto 169 dX3_init_190 (by decide) ?_
  refine g_iload_n dX3_init_169 rfl ?_
  refine g_iconst (v := 2) dX3_init_170 rfl ?_
  refine g_icmp_ge 193 dX3_init_171 (by decide) (fun h => absurd h (by decide)) (fun _ => ?_)
  refine g_aload_n dX3_init_174 rfl ?_
  refine g_getR (o := 42) (b := 42) dX3_init_175 lkX3_32 rfl rfl (by decide) rfl (Nat.le_of_ble_eq_true rfl) (by decide +kernel) ?_
  refine g_iload_n dX3_init_178 rfl ?_
  refine g_newo (c1 := 54) (ci := 0) dX3_init_179 (rfl : jCl[0]? = some (RX0, TX0, 15)) (List.mem_of_getElem? (i := 18) (by decide +kernel)) (List.mem_of_getElem? (i := 19) (by decide +kernel)) (List.mem_of_getElem? (i := 20) (by decide +kernel)) rfl rfl (Nat.le_of_ble_eq_true rfl) (Nat.le_of_ble_eq_true rfl) ?_
  refine g_dup dX3_init_182 rfl ?_
  refine g_callNq mX0_init (A := kX0 54) (t1 := 98) (mc := 10) (ms := 42) dX3_init_183 (fun _ h => h.2.2.2.2.1) (List.mem_of_getElem? (i := 20) (by decide +kernel)) (List.mem_of_getElem? (i := 51) (by decide +kernel)) cd_mX0_init rfl rfl (by decide +kernel) (by decide) (Nat.le_of_ble_eq_true rfl) ⟨(Nat.le_of_ble_eq_true rfl), (Nat.le_of_ble_eq_true rfl)⟩ kX0_54 ?_
  refine g_aastq (n := 2) (kd := 3) (ci := 0) dX3_init_186 rfl (by decide) (Nat.le_of_ble_eq_true rfl) rfl (Nat.le_of_ble_eq_true rfl) rfl (fun _ => rfl) 1 rfl (by decide) (by decide) rfl ?_
  refine g_iinc (v := 2) (L' := [some (.ref 0), some (.int 2)]) dX3_init_187 rfl (by decide) (by decide) (jnl_at (i := 0) rfl) rfl ?_
  refine g_goto 169 dX3_init_190 (by decide) ?_
  refine g_iload_n dX3_init_169 rfl ?_
  refine g_iconst (v := 2) dX3_init_170 rfl ?_
  refine g_icmp_ge 193 dX3_init_171 (by decide) (fun _ => ?_) (fun h => absurd (by decide) h)
  exact g_vret dX3_init_193 rfl rfl rfl rfl rfl
set_option maxRecDepth 100000 in
set_option maxHeartbeats 4000000 in
theorem kX4_98 : gX mX4_init [.ref 98] (gm gz ((98, 0, none) :: kX3)) 99 113 14 2000 (fun m1 => m1 = gm gz kX4) := by
  refine gX_of (L := [some (.ref 98), none]) 1 rfl rfl (by decide +kernel) rfl ?_
  refine g_aload_n dX4_init_0 rfl ?_
  refine g_objInit dX4_init_1 (List.mem_of_getElem? (i := 79) (by decide +kernel)) (Nat.le_of_ble_eq_true rfl) (Nat.le_of_ble_eq_true rfl) ?_
  refine g_aload_n dX4_init_4 rfl ?_
  refine g_bipush (v := 8) dX4_init_5 rfl ?_
  refine g_newI (c1 := 99) (N := 8) dX4_init_7 rfl (by decide) (by decide) rfl (Nat.le_of_ble_eq_true rfl) (Nat.le_of_ble_eq_true rfl) (Nat.le_of_ble_eq_true rfl) ?_
  refine g_putRq (o := 1) dX4_init_9 lkX4_7 (rfl : jlay 98 = (5, 4)) (Nat.le_of_ble_eq_true rfl) rfl (by decide) rfl (fun _ => ⟨rfl, rfl⟩) rfl (fun _ _ _ h => by cases h; exact ⟨rfl, rfl⟩) ?_
  refine g_aload_n dX4_init_12 rfl ?_
  refine g_bipush (v := 8) dX4_init_13 rfl ?_
  refine g_newI (c1 := 100) (N := 8) dX4_init_15 rfl (by decide) (by decide) rfl (Nat.le_of_ble_eq_true rfl) (Nat.le_of_ble_eq_true rfl) (Nat.le_of_ble_eq_true rfl) ?_
  refine g_putRq (o := 2) dX4_init_17 lkX4_13 (rfl : jlay 98 = (5, 4)) (Nat.le_of_ble_eq_true rfl) rfl (by decide) rfl (fun _ => ⟨rfl, rfl⟩) rfl (fun _ _ _ h => by cases h; exact ⟨rfl, rfl⟩) ?_
  refine g_aload_n dX4_init_20 rfl ?_
  refine g_sipush (v := 320) dX4_init_21 rfl ?_
  refine g_newI (c1 := 101) (N := 320) dX4_init_24 rfl (by decide) (by decide) rfl (Nat.le_of_ble_eq_true rfl) (Nat.le_of_ble_eq_true rfl) (Nat.le_of_ble_eq_true rfl) ?_
  refine g_putRq (o := 3) dX4_init_26 lkX4_16 (rfl : jlay 98 = (5, 4)) (Nat.le_of_ble_eq_true rfl) rfl (by decide) rfl (fun _ => ⟨rfl, rfl⟩) rfl (fun _ _ _ h => by cases h; exact ⟨rfl, rfl⟩) ?_
  refine g_aload_n dX4_init_29 rfl ?_
  refine g_bipush (v := 51) dX4_init_30 rfl ?_
  refine g_newI (c1 := 102) (N := 51) dX4_init_32 rfl (by decide) (by decide) rfl (Nat.le_of_ble_eq_true rfl) (Nat.le_of_ble_eq_true rfl) (Nat.le_of_ble_eq_true rfl) ?_
  refine g_putRq (o := 4) dX4_init_34 lkX4_19 (rfl : jlay 98 = (5, 4)) (Nat.le_of_ble_eq_true rfl) rfl (by decide) rfl (fun _ => ⟨rfl, rfl⟩) rfl (fun _ _ _ h => by cases h; exact ⟨rfl, rfl⟩) ?_
  refine g_aload_n dX4_init_37 rfl ?_
  refine g_bipush (v := 40) dX4_init_38 rfl ?_
  refine g_newI (c1 := 103) (N := 40) dX4_init_40 rfl (by decide) (by decide) rfl (Nat.le_of_ble_eq_true rfl) (Nat.le_of_ble_eq_true rfl) (Nat.le_of_ble_eq_true rfl) ?_
  refine g_putRq (o := 5) dX4_init_42 lkX4_22 (rfl : jlay 98 = (5, 4)) (Nat.le_of_ble_eq_true rfl) rfl (by decide) rfl (fun _ => ⟨rfl, rfl⟩) rfl (fun _ _ _ h => by cases h; exact ⟨rfl, rfl⟩) ?_
  refine g_aload_n dX4_init_45 rfl ?_
  refine g_bipush (v := 120) dX4_init_46 rfl ?_
  refine g_newI (c1 := 104) (N := 120) dX4_init_48 rfl (by decide) (by decide) rfl (Nat.le_of_ble_eq_true rfl) (Nat.le_of_ble_eq_true rfl) (Nat.le_of_ble_eq_true rfl) ?_
  refine g_putRq (o := 6) dX4_init_50 lkX4_25 (rfl : jlay 98 = (5, 4)) (Nat.le_of_ble_eq_true rfl) rfl (by decide) rfl (fun _ => ⟨rfl, rfl⟩) rfl (fun _ _ _ h => by cases h; exact ⟨rfl, rfl⟩) ?_
  refine g_aload_n dX4_init_53 rfl ?_
  refine g_bipush (v := 51) dX4_init_54 rfl ?_
  refine g_newI (c1 := 105) (N := 51) dX4_init_56 rfl (by decide) (by decide) rfl (Nat.le_of_ble_eq_true rfl) (Nat.le_of_ble_eq_true rfl) (Nat.le_of_ble_eq_true rfl) ?_
  refine g_putRq (o := 7) dX4_init_58 lkX4_28 (rfl : jlay 98 = (5, 4)) (Nat.le_of_ble_eq_true rfl) rfl (by decide) rfl (fun _ => ⟨rfl, rfl⟩) rfl (fun _ _ _ h => by cases h; exact ⟨rfl, rfl⟩) ?_
  refine g_aload_n dX4_init_61 rfl ?_
  refine g_iconst (v := 3) dX4_init_62 rfl ?_
  refine g_newI (c1 := 106) (N := 3) dX4_init_63 rfl (by decide) (by decide) rfl (Nat.le_of_ble_eq_true rfl) (Nat.le_of_ble_eq_true rfl) (Nat.le_of_ble_eq_true rfl) ?_
  refine g_putRq (o := 8) dX4_init_65 lkX4_31 (rfl : jlay 98 = (5, 4)) (Nat.le_of_ble_eq_true rfl) rfl (by decide) rfl (fun _ => ⟨rfl, rfl⟩) rfl (fun _ _ _ h => by cases h; exact ⟨rfl, rfl⟩) ?_
  refine g_aload_n dX4_init_68 rfl ?_
  refine g_sipush (v := 1224) dX4_init_69 rfl ?_
  refine g_newI (c1 := 107) (N := 1224) dX4_init_72 rfl (by decide) (by decide) rfl (Nat.le_of_ble_eq_true rfl) (Nat.le_of_ble_eq_true rfl) (Nat.le_of_ble_eq_true rfl) ?_
  refine g_putRq (o := 9) dX4_init_74 lkX4_34 (rfl : jlay 98 = (5, 4)) (Nat.le_of_ble_eq_true rfl) rfl (by decide) rfl (fun _ => ⟨rfl, rfl⟩) rfl (fun _ _ _ h => by cases h; exact ⟨rfl, rfl⟩) ?_
  refine g_aload_n dX4_init_77 rfl ?_
  refine g_bipush (v := 51) dX4_init_78 rfl ?_
  refine g_newI (c1 := 108) (N := 51) dX4_init_80 rfl (by decide) (by decide) rfl (Nat.le_of_ble_eq_true rfl) (Nat.le_of_ble_eq_true rfl) (Nat.le_of_ble_eq_true rfl) ?_
  refine g_putRq (o := 10) dX4_init_82 lkX4_37 (rfl : jlay 98 = (5, 4)) (Nat.le_of_ble_eq_true rfl) rfl (by decide) rfl (fun _ => ⟨rfl, rfl⟩) rfl (fun _ _ _ h => by cases h; exact ⟨rfl, rfl⟩) ?_
  refine g_aload_n dX4_init_85 rfl ?_
  refine g_iconst (v := 4) dX4_init_86 rfl ?_
  refine g_newI (c1 := 109) (N := 4) dX4_init_87 rfl (by decide) (by decide) rfl (Nat.le_of_ble_eq_true rfl) (Nat.le_of_ble_eq_true rfl) (Nat.le_of_ble_eq_true rfl) ?_
  refine g_putRq (o := 11) dX4_init_89 lkX4_40 (rfl : jlay 98 = (5, 4)) (Nat.le_of_ble_eq_true rfl) rfl (by decide) rfl (fun _ => ⟨rfl, rfl⟩) rfl (fun _ _ _ h => by cases h; exact ⟨rfl, rfl⟩) ?_
  refine g_aload_n dX4_init_92 rfl ?_
  refine g_iconst (v := 2) dX4_init_93 rfl ?_
  refine g_newZ (c1 := 110) (N := 2) dX4_init_94 rfl (by decide) (by decide) rfl (Nat.le_of_ble_eq_true rfl) (Nat.le_of_ble_eq_true rfl) (Nat.le_of_ble_eq_true rfl) ?_
  refine g_putRq (o := 12) dX4_init_96 lkX4_43 (rfl : jlay 98 = (5, 4)) (Nat.le_of_ble_eq_true rfl) rfl (by decide) rfl (fun _ => ⟨rfl, rfl⟩) rfl (fun _ _ _ h => by cases h; exact ⟨rfl, rfl⟩) ?_
  refine g_aload_n dX4_init_99 rfl ?_
  refine g_bipush (v := 102) dX4_init_100 rfl ?_
  refine g_newI (c1 := 111) (N := 102) dX4_init_102 rfl (by decide) (by decide) rfl (Nat.le_of_ble_eq_true rfl) (Nat.le_of_ble_eq_true rfl) (Nat.le_of_ble_eq_true rfl) ?_
  refine g_putRq (o := 13) dX4_init_104 lkX4_47 (rfl : jlay 98 = (5, 4)) (Nat.le_of_ble_eq_true rfl) rfl (by decide) rfl (fun _ => ⟨rfl, rfl⟩) rfl (fun _ _ _ h => by cases h; exact ⟨rfl, rfl⟩) ?_
  refine g_aload_n dX4_init_107 rfl ?_
  refine g_bipush (v := 16) dX4_init_108 rfl ?_
  refine g_newI (c1 := 112) (N := 16) dX4_init_110 rfl (by decide) (by decide) rfl (Nat.le_of_ble_eq_true rfl) (Nat.le_of_ble_eq_true rfl) (Nat.le_of_ble_eq_true rfl) ?_
  refine g_putRq (o := 14) dX4_init_112 lkX4_50 (rfl : jlay 98 = (5, 4)) (Nat.le_of_ble_eq_true rfl) rfl (by decide) rfl (fun _ => ⟨rfl, rfl⟩) rfl (fun _ _ _ h => by cases h; exact ⟨rfl, rfl⟩) ?_
  refine g_iconst (v := 0) dX4_init_115 rfl ?_
  refine g_istore_n (L' := [some (.ref 98), some (.int 0)]) dX4_init_116 (Nat.le_of_ble_eq_true rfl) (Nat.le_of_ble_eq_true rfl) (jnl_at (i := 0) rfl) rfl ?_
  refine g_iload_n dX4_init_117 rfl ?_
  refine g_bipush (v := 8) dX4_init_118 rfl ?_
  refine g_icmp_ge 136 dX4_init_120 (by decide) (fun h => absurd h (by decide)) (fun _ => ?_)
  refine g_aload_n dX4_init_123 rfl ?_
  refine g_getR (o := 2) (b := 100) dX4_init_124 lkX4_13 rfl rfl (by decide) rfl (Nat.le_of_ble_eq_true rfl) (by decide +kernel) ?_
  refine g_iload_n dX4_init_127 rfl ?_
  refine g_iconst (v := -1) dX4_init_128 rfl ?_
  refine g_iastq (n := 8) dX4_init_129 rfl (Nat.le_of_ble_eq_true rfl) 0 rfl (by decide) (by decide) ?_
  refine g_iinc (v := 1) (L' := [some (.ref 98), some (.int 1)]) dX4_init_130 rfl (by decide) (by decide) (jnl_at (i := 0) rfl) rfl ?_
  refine g_goto 117 dX4_init_133 (by decide) ?_
  refine g_iload_n dX4_init_117 rfl ?_
  refine g_bipush (v := 8) dX4_init_118 rfl ?_
  refine g_icmp_ge 136 dX4_init_120 (by decide) (fun h => absurd h (by decide)) (fun _ => ?_)
  refine g_aload_n dX4_init_123 rfl ?_
  refine g_getR (o := 2) (b := 100) dX4_init_124 lkX4_13 rfl rfl (by decide) rfl (Nat.le_of_ble_eq_true rfl) (by decide +kernel) ?_
  refine g_iload_n dX4_init_127 rfl ?_
  refine g_iconst (v := -1) dX4_init_128 rfl ?_
  refine g_iastq (n := 8) dX4_init_129 rfl (Nat.le_of_ble_eq_true rfl) 1 rfl (by decide) (by decide) ?_
  refine g_iinc (v := 2) (L' := [some (.ref 98), some (.int 2)]) dX4_init_130 rfl (by decide) (by decide) (jnl_at (i := 0) rfl) rfl ?_
  refine g_goto 117 dX4_init_133 (by decide) ?_
  refine g_iload_n dX4_init_117 rfl ?_
  refine g_bipush (v := 8) dX4_init_118 rfl ?_
  refine g_icmp_ge 136 dX4_init_120 (by decide) (fun h => absurd h (by decide)) (fun _ => ?_)
  refine g_aload_n dX4_init_123 rfl ?_
  refine g_getR (o := 2) (b := 100) dX4_init_124 lkX4_13 rfl rfl (by decide) rfl (Nat.le_of_ble_eq_true rfl) (by decide +kernel) ?_
  refine g_iload_n dX4_init_127 rfl ?_
  refine g_iconst (v := -1) dX4_init_128 rfl ?_
  refine g_iastq (n := 8) dX4_init_129 rfl (Nat.le_of_ble_eq_true rfl) 2 rfl (by decide) (by decide) ?_
  refine g_iinc (v := 3) (L' := [some (.ref 98), some (.int 3)]) dX4_init_130 rfl (by decide) (by decide) (jnl_at (i := 0) rfl) rfl ?_
  refine g_goto 117 dX4_init_133 (by decide) ?_
  refine g_iload_n dX4_init_117 rfl ?_
  refine g_bipush (v := 8) dX4_init_118 rfl ?_
  refine g_icmp_ge 136 dX4_init_120 (by decide) (fun h => absurd h (by decide)) (fun _ => ?_)
  refine g_aload_n dX4_init_123 rfl ?_
  refine g_getR (o := 2) (b := 100) dX4_init_124 lkX4_13 rfl rfl (by decide) rfl (Nat.le_of_ble_eq_true rfl) (by decide +kernel) ?_
  refine g_iload_n dX4_init_127 rfl ?_
  refine g_iconst (v := -1) dX4_init_128 rfl ?_
  refine g_iastq (n := 8) dX4_init_129 rfl (Nat.le_of_ble_eq_true rfl) 3 rfl (by decide) (by decide) ?_
  refine g_iinc (v := 4) (L' := [some (.ref 98), some (.int 4)]) dX4_init_130 rfl (by decide) (by decide) (jnl_at (i := 0) rfl) rfl ?_
  refine g_goto 117 dX4_init_133 (by decide) ?_
  refine g_iload_n dX4_init_117 rfl ?_
  refine g_bipush (v := 8) dX4_init_118 rfl ?_
  refine g_icmp_ge 136 dX4_init_120 (by decide) (fun h => absurd h (by decide)) (fun _ => ?_)
  refine g_aload_n dX4_init_123 rfl ?_
  refine g_getR (o := 2) (b := 100) dX4_init_124 lkX4_13 rfl rfl (by decide) rfl (Nat.le_of_ble_eq_true rfl) (by decide +kernel) ?_
  refine g_iload_n dX4_init_127 rfl ?_
  refine g_iconst (v := -1) dX4_init_128 rfl ?_
  refine g_iastq (n := 8) dX4_init_129 rfl (Nat.le_of_ble_eq_true rfl) 4 rfl (by decide) (by decide) ?_
  refine g_iinc (v := 5) (L' := [some (.ref 98), some (.int 5)]) dX4_init_130 rfl (by decide) (by decide) (jnl_at (i := 0) rfl) rfl ?_
  refine g_goto 117 dX4_init_133 (by decide) ?_
  refine g_iload_n dX4_init_117 rfl ?_
  refine g_bipush (v := 8) dX4_init_118 rfl ?_
  refine g_icmp_ge 136 dX4_init_120 (by decide) (fun h => absurd h (by decide)) (fun _ => ?_)
  refine g_aload_n dX4_init_123 rfl ?_
  refine g_getR (o := 2) (b := 100) dX4_init_124 lkX4_13 rfl rfl (by decide) rfl (Nat.le_of_ble_eq_true rfl) (by decide +kernel) ?_
  refine g_iload_n dX4_init_127 rfl ?_
  refine g_iconst (v := -1) dX4_init_128 rfl ?_
  refine g_iastq (n := 8) dX4_init_129 rfl (Nat.le_of_ble_eq_true rfl) 5 rfl (by decide) (by decide) ?_
  refine g_iinc (v := 6) (L' := [some (.ref 98), some (.int 6)]) dX4_init_130 rfl (by decide) (by decide) (jnl_at (i := 0) rfl) rfl ?_
  refine g_goto 117 dX4_init_133 (by decide) ?_
  refine g_iload_n dX4_init_117 rfl ?_
  refine g_bipush (v := 8) dX4_init_118 rfl ?_
  refine g_icmp_ge 136 dX4_init_120 (by decide) (fun h => absurd h (by decide)) (fun _ => ?_)
  refine g_aload_n dX4_init_123 rfl ?_
  refine g_getR (o := 2) (b := 100) dX4_init_124 lkX4_13 rfl rfl (by decide) rfl (Nat.le_of_ble_eq_true rfl) (by decide +kernel) ?_
  refine g_iload_n dX4_init_127 rfl ?_
  refine g_iconst (v := -1) dX4_init_128 rfl ?_
  refine g_iastq (n := 8) dX4_init_129 rfl (Nat.le_of_ble_eq_true rfl) 6 rfl (by decide) (by decide) ?_
  refine g_iinc (v := 7) (L' := [some (.ref 98), some (.int 7)]) dX4_init_130 rfl (by decide) (by decide) (jnl_at (i := 0) rfl) rfl ?_
  refine g_goto 117 dX4_init_133 (by decide) ?_
  refine g_iload_n dX4_init_117 rfl ?_
  refine g_bipush (v := 8) dX4_init_118 rfl ?_
  refine g_icmp_ge 136 dX4_init_120 (by decide) (fun h => absurd h (by decide)) (fun _ => ?_)
  refine g_aload_n dX4_init_123 rfl ?_
  refine g_getR (o := 2) (b := 100) dX4_init_124 lkX4_13 rfl rfl (by decide) rfl (Nat.le_of_ble_eq_true rfl) (by decide +kernel) ?_
  refine g_iload_n dX4_init_127 rfl ?_
  refine g_iconst (v := -1) dX4_init_128 rfl ?_
  refine g_iastq (n := 8) dX4_init_129 rfl (Nat.le_of_ble_eq_true rfl) 7 rfl (by decide) (by decide) ?_
  refine g_iinc (v := 8) (L' := [some (.ref 98), some (.int 8)]) dX4_init_130 rfl (by decide) (by decide) (jnl_at (i := 0) rfl) rfl ?_
  refine g_goto 117 dX4_init_133 (by decide) ?_
  refine g_iload_n dX4_init_117 rfl ?_
  refine g_bipush (v := 8) dX4_init_118 rfl ?_
  refine g_icmp_ge 136 dX4_init_120 (by decide) (fun _ => ?_) (fun h => absurd (by decide) h)
  exact g_vret dX4_init_136 rfl rfl rfl rfl rfl
