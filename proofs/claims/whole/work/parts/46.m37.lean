/-- all cells when both have been made -/
def bothL : List Nat := rockL ++ [300, 301, 303, 304, 305, 306, 307, 308, 311, 315, 319, 322, 323, 324, 325, 326, 327]
/-- the reference's cells when it has been made -/
def IniM (c : Nat → Nat → Int32) (r : Nat → Nat → Option Nat) : Prop := RM r ∧ (c 300 1 = nI 0 ∧ c 300 8 = nI 30 ∧ c 300 9 = nI 1 ∧ c 300 17 = nI 0 ∧ c 300 19 = nI 0 ∧ c 300 20 = nI 0 ∧ c 300 27 = nI 0)
  ∧ (c 301 0 = nI 100 ∧ c 301 1 = nI 10 ∧ c 301 2 = nI 20 ∧ c 301 3 = nI 10) ∧ (∀ i, c 306 i = nI 0) ∧ (∀ i, c 307 i = nI 0) ∧ (∀ i, c 322 i = nI 0 ∧ c 323 i = nI 0) ∧ ∀ s, s < 4 → c 324 s = -1 ∧ c 325 s = nI 0

set_option maxHeartbeats 4000000 in
set_option maxRecDepth 100000 in
theorem c_X8_init (l : Launch) (D : va_G) (cy : Nat → ClassId) (a : Nat → Nat) (L : List Nat) (c : Nat → Nat → Int32) (g : Nat → Nat → Int64) (r : Nat → Nat → Option Nat) (hLe : L = rockL ++ [300]) (hZ : zR (rockL ++ [300]) r) (h0 : ∀ j, c 300 j = 0) : zXV l yX8_init wsX8_init { frames := 1, cells := 16, slots := 942, locals := 20 } D cy a L c g r [Value.ref (a 300)] (fun ω => ∃ a' c' g' r', a' 0 = a 0 ∧ a' 300 = a 300 ∧ ω = (a', bothL, c', g', r') ∧ zR bothL r' ∧ (∀ k, k < 300 → c' k = c k ∧ g' k = g k ∧ r' k = r k) ∧ IniM c' r') 16 942 := by
  refine z_enter cX8_init 2 none (by decide) (Nat.le_of_ble_eq_true rfl) ?_
  intro p e s m below meth co C hin
  have C : zC p s m _ meth co D cy _ cX8_init 2 none wsX8_init RX8 := C
  have i8 : ∀ w ∈ wsX80, w ∈ wsX8_init := by decide +kernel
  subst hLe
  have ha0 : a 0 = a 0 := rfl
  have ha300 : a 300 = a 300 := rfl
  refine z_aload_n C dX8_init_0 rfl (q := 0) rfl ?_
  refine z_objInit C (by decide +kernel) (by decide +kernel) (by decide +kernel) (Nat.le_of_ble_eq_true rfl) (Nat.le_of_ble_eq_true rfl) dX8_init_1 ?_
  refine z_aload_n C dX8_init_4 rfl (q := 0) rfl ?_
  refine z_iconst C dX8_init_5 (v := nI 4) (by decide) ?_
  refine z_newi C (k := 301) (N := 4) (by rfl) (show ln 301 = 4 from rfl) (by decide) (by decide +kernel) (Nat.le_of_ble_eq_true rfl) (Nat.le_of_ble_eq_true rfl) (by decide) (zR_ne hZ (by decide)) dX8_init_6 (fun a ha6_1 => ?_)
  have ha0 := (ha6_1 0 (by decide)).trans ha0
  have ha300 := (ha6_1 300 (by decide)).trans ha300
  refine z_lveq (lv' := [(0, Value.ref (a 300))]) (by rw [ha6_1 (300) (by decide)] <;> rfl) ?_
  refine z_steq (st' := [Value.ref (a 301), Value.ref (a 300)]) (by rw [ha6_1 (300) (by decide)] <;> rfl) ?_
  have hZ := zR_new hZ (301)
  refine zp_X8_told C (k := 300) (by decide) (by rfl) i8 (by decide +kernel) hin rfl dX8_init_8 ?_
  have hZ := zR_put hZ (300) 0 (y := 301) (by decide)
  refine z_aload_n C dX8_init_11 rfl (q := 0) rfl ?_
  refine z_bipush C dX8_init_12 (v := nI 16) (by decide) ?_
  refine z_newi C (k := 303) (N := 16) (by rfl) (show ln 303 = 16 from rfl) (by decide) (by decide +kernel) (Nat.le_of_ble_eq_true rfl) (Nat.le_of_ble_eq_true rfl) (by decide) (zR_ne hZ (by decide)) dX8_init_14 (fun a ha14_2 => ?_)
  have ha0 := (ha14_2 0 (by decide)).trans ha0
  have ha300 := (ha14_2 300 (by decide)).trans ha300
  refine z_lveq (lv' := [(0, Value.ref (a 300))]) (by rw [ha14_2 (300) (by decide)] <;> rfl) ?_
  refine z_steq (st' := [Value.ref (a 303), Value.ref (a 300)]) (by rw [ha14_2 (300) (by decide)] <;> rfl) ?_
  have hZ := zR_new hZ (303)
  refine zp_X8_width C (k := 300) (by decide) (by rfl) i8 (by decide +kernel) hin rfl dX8_init_16 ?_
  have hZ := zR_put hZ (300) 2 (y := 303) (by decide)
  refine z_aload_n C dX8_init_19 rfl (q := 0) rfl ?_
  refine z_bipush C dX8_init_20 (v := nI 16) (by decide) ?_
  refine z_newi C (k := 304) (N := 16) (by rfl) (show ln 304 = 16 from rfl) (by decide) (by decide +kernel) (Nat.le_of_ble_eq_true rfl) (Nat.le_of_ble_eq_true rfl) (by decide) (zR_ne hZ (by decide)) dX8_init_22 (fun a ha22_3 => ?_)
  have ha0 := (ha22_3 0 (by decide)).trans ha0
  have ha300 := (ha22_3 300 (by decide)).trans ha300
  refine z_lveq (lv' := [(0, Value.ref (a 300))]) (by rw [ha22_3 (300) (by decide)] <;> rfl) ?_
  refine z_steq (st' := [Value.ref (a 304), Value.ref (a 300)]) (by rw [ha22_3 (300) (by decide)] <;> rfl) ?_
  have hZ := zR_new hZ (304)
  refine zp_X8_minutes C (k := 300) (by decide) (by rfl) i8 (by decide +kernel) hin rfl dX8_init_24 ?_
  have hZ := zR_put hZ (300) 3 (y := 304) (by decide)
  refine z_aload_n C dX8_init_27 rfl (q := 0) rfl ?_
  refine z_bipush C dX8_init_28 (v := nI 16) (by decide) ?_
  refine z_newi C (k := 305) (N := 16) (by rfl) (show ln 305 = 16 from rfl) (by decide) (by decide +kernel) (Nat.le_of_ble_eq_true rfl) (Nat.le_of_ble_eq_true rfl) (by decide) (zR_ne hZ (by decide)) dX8_init_30 (fun a ha30_4 => ?_)
  have ha0 := (ha30_4 0 (by decide)).trans ha0
  have ha300 := (ha30_4 300 (by decide)).trans ha300
  refine z_lveq (lv' := [(0, Value.ref (a 300))]) (by rw [ha30_4 (300) (by decide)] <;> rfl) ?_
  refine z_steq (st' := [Value.ref (a 305), Value.ref (a 300)]) (by rw [ha30_4 (300) (by decide)] <;> rfl) ?_
  have hZ := zR_new hZ (305)
  refine zp_X8_soft C (k := 300) (by decide) (by rfl) i8 (by decide +kernel) hin rfl dX8_init_32 ?_
  have hZ := zR_put hZ (300) 4 (y := 305) (by decide)
  refine z_aload_n C dX8_init_35 rfl (q := 0) rfl ?_
  refine z_bipush C dX8_init_36 (v := nI 80) (by decide) ?_
  refine z_newi C (k := 306) (N := 80) (by rfl) (show ln 306 = 80 from rfl) (by decide) (by decide +kernel) (Nat.le_of_ble_eq_true rfl) (Nat.le_of_ble_eq_true rfl) (by decide) (zR_ne hZ (by decide)) dX8_init_38 (fun a ha38_5 => ?_)
  have ha0 := (ha38_5 0 (by decide)).trans ha0
  have ha300 := (ha38_5 300 (by decide)).trans ha300
  refine z_lveq (lv' := [(0, Value.ref (a 300))]) (by rw [ha38_5 (300) (by decide)] <;> rfl) ?_
  refine z_steq (st' := [Value.ref (a 306), Value.ref (a 300)]) (by rw [ha38_5 (300) (by decide)] <;> rfl) ?_
  have hZ := zR_new hZ (306)
  refine zp_X8_strips C (k := 300) (by decide) (by rfl) i8 (by decide +kernel) hin rfl dX8_init_40 ?_
  have hZ := zR_put hZ (300) 5 (y := 306) (by decide)
  refine z_aload_n C dX8_init_43 rfl (q := 0) rfl ?_
  refine z_bipush C dX8_init_44 (v := nI 8) (by decide) ?_
  refine z_newi C (k := 307) (N := 8) (by rfl) (show ln 307 = 8 from rfl) (by decide) (by decide +kernel) (Nat.le_of_ble_eq_true rfl) (Nat.le_of_ble_eq_true rfl) (by decide) (zR_ne hZ (by decide)) dX8_init_46 (fun a ha46_6 => ?_)
  have ha0 := (ha46_6 0 (by decide)).trans ha0
  have ha300 := (ha46_6 300 (by decide)).trans ha300
  refine z_lveq (lv' := [(0, Value.ref (a 300))]) (by rw [ha46_6 (300) (by decide)] <;> rfl) ?_
  refine z_steq (st' := [Value.ref (a 307), Value.ref (a 300)]) (by rw [ha46_6 (300) (by decide)] <;> rfl) ?_
  have hZ := zR_new hZ (307)
  refine zp_X8_spelled C (k := 300) (by decide) (by rfl) i8 (by decide +kernel) hin rfl dX8_init_48 ?_
  have hZ := zR_put hZ (300) 6 (y := 307) (by decide)
  refine z_aload_n C dX8_init_51 rfl (q := 0) rfl ?_
  refine z_bipush C dX8_init_52 (v := nI 80) (by decide) ?_
  refine z_newi C (k := 308) (N := 80) (by rfl) (show ln 308 = 80 from rfl) (by decide) (by decide +kernel) (Nat.le_of_ble_eq_true rfl) (Nat.le_of_ble_eq_true rfl) (by decide) (zR_ne hZ (by decide)) dX8_init_54 (fun a ha54_7 => ?_)
  have ha0 := (ha54_7 0 (by decide)).trans ha0
  have ha300 := (ha54_7 300 (by decide)).trans ha300
  refine z_lveq (lv' := [(0, Value.ref (a 300))]) (by rw [ha54_7 (300) (by decide)] <;> rfl) ?_
  refine z_steq (st' := [Value.ref (a 308), Value.ref (a 300)]) (by rw [ha54_7 (300) (by decide)] <;> rfl) ?_
  have hZ := zR_new hZ (308)
  refine zp_X8_words C (k := 300) (by decide) (by rfl) i8 (by decide +kernel) hin rfl dX8_init_56 ?_
  have hZ := zR_put hZ (300) 7 (y := 308) (by decide)
  refine z_aload_n C dX8_init_59 rfl (q := 0) rfl ?_
  refine z_bipush C dX8_init_60 (v := nI 30) (by decide) ?_
  refine zp_X8_slots C (k := 300) (by decide) (by rfl) i8 (by decide +kernel) dX8_init_62 ?_
  refine z_aload_n C dX8_init_65 rfl (q := 0) rfl ?_
  refine z_iconst C dX8_init_66 (v := nI 1) (by decide) ?_
  refine zp_X8_gap C (k := 300) (by decide) (by rfl) i8 (by decide +kernel) dX8_init_67 ?_
  refine z_aload_n C dX8_init_70 rfl (q := 0) rfl ?_
  refine z_bipush C dX8_init_71 (v := nI 60) (by decide) ?_
  refine z_newi C (k := 311) (N := 60) (by rfl) (show ln 311 = 60 from rfl) (by decide) (by decide +kernel) (Nat.le_of_ble_eq_true rfl) (Nat.le_of_ble_eq_true rfl) (by decide) (zR_ne hZ (by decide)) dX8_init_73 (fun a ha73_8 => ?_)
  have ha0 := (ha73_8 0 (by decide)).trans ha0
  have ha300 := (ha73_8 300 (by decide)).trans ha300
  refine z_lveq (lv' := [(0, Value.ref (a 300))]) (by rw [ha73_8 (300) (by decide)] <;> rfl) ?_
  refine z_steq (st' := [Value.ref (a 311), Value.ref (a 300)]) (by rw [ha73_8 (300) (by decide)] <;> rfl) ?_
  have hZ := zR_new hZ (311)
  refine zp_X8_laid C (k := 300) (by decide) (by rfl) i8 (by decide +kernel) hin rfl dX8_init_75 ?_
  have hZ := zR_put hZ (300) 10 (y := 311) (by decide)
  refine z_aload_n C dX8_init_78 rfl (q := 0) rfl ?_
  refine z_bipush C dX8_init_79 (v := nI 10) (by decide) ?_
  refine z_newi C (k := 315) (N := 10) (by rfl) (show ln 315 = 10 from rfl) (by decide) (by decide +kernel) (Nat.le_of_ble_eq_true rfl) (Nat.le_of_ble_eq_true rfl) (by decide) (zR_ne hZ (by decide)) dX8_init_81 (fun a ha81_9 => ?_)
  have ha0 := (ha81_9 0 (by decide)).trans ha0
  have ha300 := (ha81_9 300 (by decide)).trans ha300
  refine z_lveq (lv' := [(0, Value.ref (a 300))]) (by rw [ha81_9 (300) (by decide)] <;> rfl) ?_
  refine z_steq (st' := [Value.ref (a 315), Value.ref (a 300)]) (by rw [ha81_9 (300) (by decide)] <;> rfl) ?_
  have hZ := zR_new hZ (315)
  refine zp_X8_order C (k := 300) (by decide) (by rfl) i8 (by decide +kernel) hin rfl dX8_init_83 ?_
  have hZ := zR_put hZ (300) 14 (y := 315) (by decide)
  refine z_aload_n C dX8_init_86 rfl (q := 0) rfl ?_
  refine z_sipush C dX8_init_87 (v := nI 240) (by decide) ?_
  refine z_newi C (k := 319) (N := 240) (by rfl) (show ln 319 = 240 from rfl) (by decide) (by decide +kernel) (Nat.le_of_ble_eq_true rfl) (Nat.le_of_ble_eq_true rfl) (by decide) (zR_ne hZ (by decide)) dX8_init_90 (fun a ha90_10 => ?_)
  have ha0 := (ha90_10 0 (by decide)).trans ha0
  have ha300 := (ha90_10 300 (by decide)).trans ha300
  refine z_lveq (lv' := [(0, Value.ref (a 300))]) (by rw [ha90_10 (300) (by decide)] <;> rfl) ?_
  refine z_steq (st' := [Value.ref (a 319), Value.ref (a 300)]) (by rw [ha90_10 (300) (by decide)] <;> rfl) ?_
  have hZ := zR_new hZ (319)
  refine zp_X8_made C (k := 300) (by decide) (by rfl) i8 (by decide +kernel) hin rfl dX8_init_92 ?_
  have hZ := zR_put hZ (300) 18 (y := 319) (by decide)
  refine z_aload_n C dX8_init_95 rfl (q := 0) rfl ?_
  refine z_bipush C dX8_init_96 (v := nI 52) (by decide) ?_
  refine z_newb C (k := 322) (N := 52) (by rfl) (show ln 322 = 52 from rfl) (by decide) (by decide +kernel) (Nat.le_of_ble_eq_true rfl) (Nat.le_of_ble_eq_true rfl) (by decide) (zR_ne hZ (by decide)) dX8_init_98 (fun a ha98_11 => ?_)
  have ha0 := (ha98_11 0 (by decide)).trans ha0
  have ha300 := (ha98_11 300 (by decide)).trans ha300
  refine z_lveq (lv' := [(0, Value.ref (a 300))]) (by rw [ha98_11 (300) (by decide)] <;> rfl) ?_
  refine z_steq (st' := [Value.ref (a 322), Value.ref (a 300)]) (by rw [ha98_11 (300) (by decide)] <;> rfl) ?_
  have hZ := zR_new hZ (322)
  refine zp_X8_isDamp C (k := 300) (by decide) (by rfl) i8 (by decide +kernel) hin rfl dX8_init_100 ?_
  have hZ := zR_put hZ (300) 21 (y := 322) (by decide)
  refine z_aload_n C dX8_init_103 rfl (q := 0) rfl ?_
  refine z_bipush C dX8_init_104 (v := nI 52) (by decide) ?_
  refine z_newi C (k := 323) (N := 52) (by rfl) (show ln 323 = 52 from rfl) (by decide) (by decide +kernel) (Nat.le_of_ble_eq_true rfl) (Nat.le_of_ble_eq_true rfl) (by decide) (zR_ne hZ (by decide)) dX8_init_106 (fun a ha106_12 => ?_)
  have ha0 := (ha106_12 0 (by decide)).trans ha0
  have ha300 := (ha106_12 300 (by decide)).trans ha300
  refine z_lveq (lv' := [(0, Value.ref (a 300))]) (by rw [ha106_12 (300) (by decide)] <;> rfl) ?_
  refine z_steq (st' := [Value.ref (a 323), Value.ref (a 300)]) (by rw [ha106_12 (300) (by decide)] <;> rfl) ?_
  have hZ := zR_new hZ (323)
  refine zp_X8_makes C (k := 300) (by decide) (by rfl) i8 (by decide +kernel) hin rfl dX8_init_108 ?_
  have hZ := zR_put hZ (300) 22 (y := 323) (by decide)
  refine z_aload_n C dX8_init_111 rfl (q := 0) rfl ?_
  refine z_iconst C dX8_init_112 (v := nI 4) (by decide) ?_
  refine z_newi C (k := 324) (N := 4) (by rfl) (show ln 324 = 4 from rfl) (by decide) (by decide +kernel) (Nat.le_of_ble_eq_true rfl) (Nat.le_of_ble_eq_true rfl) (by decide) (zR_ne hZ (by decide)) dX8_init_113 (fun a ha113_13 => ?_)
  have ha0 := (ha113_13 0 (by decide)).trans ha0
  have ha300 := (ha113_13 300 (by decide)).trans ha300
  refine z_lveq (lv' := [(0, Value.ref (a 300))]) (by rw [ha113_13 (300) (by decide)] <;> rfl) ?_
  refine z_steq (st' := [Value.ref (a 324), Value.ref (a 300)]) (by rw [ha113_13 (300) (by decide)] <;> rfl) ?_
  have hZ := zR_new hZ (324)
  refine zp_X8_forms C (k := 300) (by decide) (by rfl) i8 (by decide +kernel) hin rfl dX8_init_115 ?_
  have hZ := zR_put hZ (300) 23 (y := 324) (by decide)
  refine z_aload_n C dX8_init_118 rfl (q := 0) rfl ?_
  refine z_iconst C dX8_init_119 (v := nI 4) (by decide) ?_
  refine z_newi C (k := 325) (N := 4) (by rfl) (show ln 325 = 4 from rfl) (by decide) (by decide +kernel) (Nat.le_of_ble_eq_true rfl) (Nat.le_of_ble_eq_true rfl) (by decide) (zR_ne hZ (by decide)) dX8_init_120 (fun a ha120_14 => ?_)
  have ha0 := (ha120_14 0 (by decide)).trans ha0
  have ha300 := (ha120_14 300 (by decide)).trans ha300
  refine z_lveq (lv' := [(0, Value.ref (a 300))]) (by rw [ha120_14 (300) (by decide)] <;> rfl) ?_
  refine z_steq (st' := [Value.ref (a 325), Value.ref (a 300)]) (by rw [ha120_14 (300) (by decide)] <;> rfl) ?_
  have hZ := zR_new hZ (325)
  refine zp_X8_sizes C (k := 300) (by decide) (by rfl) i8 (by decide +kernel) hin rfl dX8_init_122 ?_
  have hZ := zR_put hZ (300) 24 (y := 325) (by decide)
  refine z_aload_n C dX8_init_125 rfl (q := 0) rfl ?_
  refine z_sipush C dX8_init_126 (v := nI 240) (by decide) ?_
  refine z_newi C (k := 326) (N := 240) (by rfl) (show ln 326 = 240 from rfl) (by decide) (by decide +kernel) (Nat.le_of_ble_eq_true rfl) (Nat.le_of_ble_eq_true rfl) (by decide) (zR_ne hZ (by decide)) dX8_init_129 (fun a ha129_15 => ?_)
  have ha0 := (ha129_15 0 (by decide)).trans ha0
  have ha300 := (ha129_15 300 (by decide)).trans ha300
  refine z_lveq (lv' := [(0, Value.ref (a 300))]) (by rw [ha129_15 (300) (by decide)] <;> rfl) ?_
  refine z_steq (st' := [Value.ref (a 326), Value.ref (a 300)]) (by rw [ha129_15 (300) (by decide)] <;> rfl) ?_
  have hZ := zR_new hZ (326)
  refine zp_X8_items C (k := 300) (by decide) (by rfl) i8 (by decide +kernel) hin rfl dX8_init_131 ?_
  have hZ := zR_put hZ (300) 25 (y := 326) (by decide)
  refine z_aload_n C dX8_init_134 rfl (q := 0) rfl ?_
  refine z_bipush C dX8_init_135 (v := nI 60) (by decide) ?_
  refine z_newi C (k := 327) (N := 60) (by rfl) (show ln 327 = 60 from rfl) (by decide) (by decide +kernel) (Nat.le_of_ble_eq_true rfl) (Nat.le_of_ble_eq_true rfl) (by decide) (zR_ne hZ (by decide)) dX8_init_137 (fun a ha137_16 => ?_)
  have ha0 := (ha137_16 0 (by decide)).trans ha0
  have ha300 := (ha137_16 300 (by decide)).trans ha300
  refine z_lveq (lv' := [(0, Value.ref (a 300))]) (by rw [ha137_16 (300) (by decide)] <;> rfl) ?_
  refine z_steq (st' := [Value.ref (a 327), Value.ref (a 300)]) (by rw [ha137_16 (300) (by decide)] <;> rfl) ?_
  have hZ := zR_new hZ (327)
  refine zp_X8_moved C (k := 300) (by decide) (by rfl) i8 (by decide +kernel) hin rfl dX8_init_139 ?_
  have hZ := zR_put hZ (300) 26 (y := 327) (by decide)
  refine z_aload_n C dX8_init_142 rfl (q := 0) rfl ?_
  refine zg_X8_told C (k := 300) (by decide) (by rfl) i8 (by decide +kernel) (k' := 301) rfl dX8_init_143 ?_
  refine z_iconst C dX8_init_146 (v := 0) (by decide) ?_
  refine z_bipush C dX8_init_147 (v := nI 100) (by decide) ?_
  refine z_iastore C (k := 301) (by decide) (by rfl) (j := 0) (by decide) (by rw [show ln 301 = 4 from rfl]; omega) (by rw [show ln 301 = 4 from rfl]; decide) dX8_init_149 ?_
  refine z_aload_n C dX8_init_150 rfl (q := 0) rfl ?_
  refine zg_X8_told C (k := 300) (by decide) (by rfl) i8 (by decide +kernel) (k' := 301) rfl dX8_init_151 ?_
  refine z_iconst C dX8_init_154 (v := 1) (by decide) ?_
  refine z_bipush C dX8_init_155 (v := nI 10) (by decide) ?_
  refine z_iastore C (k := 301) (by decide) (by rfl) (j := 1) (by decide) (by rw [show ln 301 = 4 from rfl]; omega) (by rw [show ln 301 = 4 from rfl]; decide) dX8_init_157 ?_
  refine z_aload_n C dX8_init_158 rfl (q := 0) rfl ?_
  refine zg_X8_told C (k := 300) (by decide) (by rfl) i8 (by decide +kernel) (k' := 301) rfl dX8_init_159 ?_
  refine z_iconst C dX8_init_162 (v := 2) (by decide) ?_
  refine z_bipush C dX8_init_163 (v := nI 20) (by decide) ?_
  refine z_iastore C (k := 301) (by decide) (by rfl) (j := 2) (by decide) (by rw [show ln 301 = 4 from rfl]; omega) (by rw [show ln 301 = 4 from rfl]; decide) dX8_init_165 ?_
  refine z_aload_n C dX8_init_166 rfl (q := 0) rfl ?_
  refine zg_X8_told C (k := 300) (by decide) (by rfl) i8 (by decide +kernel) (k' := 301) rfl dX8_init_167 ?_
  refine z_iconst C dX8_init_170 (v := 3) (by decide) ?_
  refine z_bipush C dX8_init_171 (v := nI 10) (by decide) ?_
  refine z_iastore C (k := 301) (by decide) (by rfl) (j := 3) (by decide) (by rw [show ln 301 = 4 from rfl]; omega) (by rw [show ln 301 = 4 from rfl]; decide) dX8_init_173 ?_
  refine z_iconst C dX8_init_174 (v := nI 0) (by decide) ?_
  refine z_istore_n C dX8_init_175 rfl (by decide) (lv' := [(1, Value.int (nI 0)), (0, Value.ref (a 300))]) rfl ?_
  refine z_iload_n C dX8_init_176 rfl (q := 0) rfl ?_
  refine z_iconst C dX8_init_177 (v := nI 4) (by decide) ?_
  refine z_icmp_ge C dX8_init_178 (tgt := 194) (by decide) (fun h178 => absurd h178 (by decide)) (fun h178 => ?_)
  refine z_aload_n C dX8_init_181 rfl (q := 1) rfl ?_
  refine zg_X8_forms C (k := 300) (by decide) (by rfl) i8 (by decide +kernel) (k' := 324) rfl dX8_init_182 ?_
  refine z_iload_n C dX8_init_185 rfl (q := 0) rfl ?_
  refine z_iconst C dX8_init_186 (v := -1) (by decide) ?_
  refine z_iastore C (k := 324) (by decide) (by rfl) (j := 0) rfl (by rw [show ln 324 = 4 from rfl]; omega) (by rw [show ln 324 = 4 from rfl]; decide) dX8_init_187 ?_
  refine z_iinc C dX8_init_188 (q := 0) rfl (v := nI 1) (by decide) (by decide) (lv' := [(1, Value.int (nI 1)), (0, Value.ref (a 300))]) rfl ?_
  refine z_goto C dX8_init_191 (tgt := 176) (by decide) ?_
  refine z_iload_n C dX8_init_176 rfl (q := 0) rfl ?_
  refine z_iconst C dX8_init_177 (v := nI 4) (by decide) ?_
  refine z_icmp_ge C dX8_init_178 (tgt := 194) (by decide) (fun h178 => absurd h178 (by decide)) (fun h178 => ?_)
  refine z_aload_n C dX8_init_181 rfl (q := 1) rfl ?_
  refine zg_X8_forms C (k := 300) (by decide) (by rfl) i8 (by decide +kernel) (k' := 324) rfl dX8_init_182 ?_
  refine z_iload_n C dX8_init_185 rfl (q := 0) rfl ?_
  refine z_iconst C dX8_init_186 (v := -1) (by decide) ?_
  refine z_iastore C (k := 324) (by decide) (by rfl) (j := 1) rfl (by rw [show ln 324 = 4 from rfl]; omega) (by rw [show ln 324 = 4 from rfl]; decide) dX8_init_187 ?_
  refine z_iinc C dX8_init_188 (q := 0) rfl (v := nI 2) (by decide) (by decide) (lv' := [(1, Value.int (nI 2)), (0, Value.ref (a 300))]) rfl ?_
  refine z_goto C dX8_init_191 (tgt := 176) (by decide) ?_
  refine z_iload_n C dX8_init_176 rfl (q := 0) rfl ?_
  refine z_iconst C dX8_init_177 (v := nI 4) (by decide) ?_
  refine z_icmp_ge C dX8_init_178 (tgt := 194) (by decide) (fun h178 => absurd h178 (by decide)) (fun h178 => ?_)
  refine z_aload_n C dX8_init_181 rfl (q := 1) rfl ?_
  refine zg_X8_forms C (k := 300) (by decide) (by rfl) i8 (by decide +kernel) (k' := 324) rfl dX8_init_182 ?_
  refine z_iload_n C dX8_init_185 rfl (q := 0) rfl ?_
  refine z_iconst C dX8_init_186 (v := -1) (by decide) ?_
  refine z_iastore C (k := 324) (by decide) (by rfl) (j := 2) rfl (by rw [show ln 324 = 4 from rfl]; omega) (by rw [show ln 324 = 4 from rfl]; decide) dX8_init_187 ?_
  refine z_iinc C dX8_init_188 (q := 0) rfl (v := nI 3) (by decide) (by decide) (lv' := [(1, Value.int (nI 3)), (0, Value.ref (a 300))]) rfl ?_
  refine z_goto C dX8_init_191 (tgt := 176) (by decide) ?_
  refine z_iload_n C dX8_init_176 rfl (q := 0) rfl ?_
  refine z_iconst C dX8_init_177 (v := nI 4) (by decide) ?_
  refine z_icmp_ge C dX8_init_178 (tgt := 194) (by decide) (fun h178 => absurd h178 (by decide)) (fun h178 => ?_)
  refine z_aload_n C dX8_init_181 rfl (q := 1) rfl ?_
  refine zg_X8_forms C (k := 300) (by decide) (by rfl) i8 (by decide +kernel) (k' := 324) rfl dX8_init_182 ?_
  refine z_iload_n C dX8_init_185 rfl (q := 0) rfl ?_
  refine z_iconst C dX8_init_186 (v := -1) (by decide) ?_
  refine z_iastore C (k := 324) (by decide) (by rfl) (j := 3) rfl (by rw [show ln 324 = 4 from rfl]; omega) (by rw [show ln 324 = 4 from rfl]; decide) dX8_init_187 ?_
  refine z_iinc C dX8_init_188 (q := 0) rfl (v := nI 4) (by decide) (by decide) (lv' := [(1, Value.int (nI 4)), (0, Value.ref (a 300))]) rfl ?_
  refine z_goto C dX8_init_191 (tgt := 176) (by decide) ?_
  refine z_iload_n C dX8_init_176 rfl (q := 0) rfl ?_
  refine z_iconst C dX8_init_177 (v := nI 4) (by decide) ?_
  refine z_icmp_ge C dX8_init_178 (tgt := 194) (by decide) (fun h178 => ?_) (fun h178 => absurd h178 (by decide))
  refine z_vret C rfl (Nat.le_of_ble_eq_true rfl) (Nat.le_of_ble_eq_true rfl) dX8_init_194 ⟨_, _, _, _, ha0, ha300, rfl, hZ, ?_, ?_⟩
  · intro k hk
    refine ⟨?_, ?_, ?_⟩
    · simp (disch := omega) only [up2_row, up1_k]
    · simp (disch := omega) only [up2_row, up1_k]
    · simp (disch := omega) only [up2_row, up1_k]
  · refine ⟨⟨⟨rfl, rfl, rfl, rfl, rfl, rfl, rfl, rfl⟩, rfl, rfl, rfl, rfl, rfl, rfl, rfl, rfl⟩, ⟨h0 1, rfl, rfl, h0 17, h0 19, h0 20, h0 27⟩, ⟨rfl, rfl, rfl, rfl⟩, fun i => rfl, fun i => rfl, fun i => ⟨rfl, rfl⟩, fun s hs => ?_⟩
    rcases (show s = 0 ∨ s = 1 ∨ s = 2 ∨ s = 3 by omega) with rfl | rfl | rfl | rfl <;> exact ⟨rfl, rfl⟩
