theorem ER_0 (m : MS) : f_X7_reckon m 0 = (ms_s m (upd (mq_s m) 16 ((f_X7_m m (mq_s m 19))))) := (if_neg (by decide)).trans ((if_neg (by decide)).trans ((if_neg (by decide)).trans (if_pos (by decide))))
theorem EL_0 (u : BS) : f_X4_calculate u 0 = (f_X4_combine (f_X4_operand u 0).2 (0 &&& 7) (f_X4_operand u 0).1 0 0) := (if_neg (by decide)).trans (if_neg (by decide))
theorem EO_0 (u : BS) : f_X4_operand u 0 = ((f_X4_at u (bq_x u)), u) := if_neg (by decide)
theorem ER_1 (m : MS) : f_X7_reckon m 1 = (ms_s m (upd (mq_s m) 16 ((mq_s m 16) ||| ((f_X7_m m (mq_s m 19)))))) := (if_neg (by decide)).trans ((if_neg (by decide)).trans ((if_neg (by decide)).trans ((if_neg (by decide)).trans (if_pos (by decide)))))
theorem EL_1 (u : BS) : f_X4_calculate u 1 = (f_X4_combine (f_X4_operand u 1).2 (1 &&& 7) (f_X4_operand u 1).1 0 0) := (if_neg (by decide)).trans (if_neg (by decide))
theorem EO_1 (u : BS) : f_X4_operand u 1 = ((f_X4_at u (bq_x u)), u) := if_neg (by decide)
theorem ER_2 (m : MS) : f_X7_reckon m 2 = (ms_s m (upd (mq_s m) 16 ((mq_s m 16) &&& ((f_X7_m m (mq_s m 19)))))) := (if_neg (by decide)).trans ((if_neg (by decide)).trans ((if_neg (by decide)).trans ((if_neg (by decide)).trans ((if_neg (by decide)).trans (if_pos (by decide))))))
theorem EL_2 (u : BS) : f_X4_calculate u 2 = (f_X4_combine (f_X4_operand u 2).2 (2 &&& 7) (f_X4_operand u 2).1 0 0) := (if_neg (by decide)).trans (if_neg (by decide))
theorem EO_2 (u : BS) : f_X4_operand u 2 = ((f_X4_at u (bq_x u)), u) := if_neg (by decide)
theorem ER_3 (m : MS) : f_X7_reckon m 3 = (ms_s m (upd (mq_s m) 16 ((mq_s m 16) ^^^ ((f_X7_m m (mq_s m 19)))))) := (if_neg (by decide)).trans ((if_neg (by decide)).trans ((if_neg (by decide)).trans ((if_neg (by decide)).trans ((if_neg (by decide)).trans ((if_neg (by decide)).trans (if_pos (by decide)))))))
theorem EL_3 (u : BS) : f_X4_calculate u 3 = (f_X4_combine (f_X4_operand u 3).2 (3 &&& 7) (f_X4_operand u 3).1 0 0) := (if_neg (by decide)).trans (if_neg (by decide))
theorem EO_3 (u : BS) : f_X4_operand u 3 = ((f_X4_at u (bq_x u)), u) := if_neg (by decide)
theorem ER_4 (m : MS) : f_X7_reckon m 4 = (f_X7_sum m ((f_X7_m m (mq_s m 19))) (mq_s m 16)) := (if_neg (by decide)).trans ((if_neg (by decide)).trans ((if_neg (by decide)).trans ((if_neg (by decide)).trans ((if_neg (by decide)).trans ((if_neg (by decide)).trans ((if_neg (by decide)).trans (if_pos (by decide))))))))
theorem EL_4 (u : BS) : f_X4_calculate u 4 = (f_X4_combine (f_X4_operand u 4).2 (4 &&& 7) (f_X4_operand u 4).1 0 0) := (if_neg (by decide)).trans (if_neg (by decide))
theorem ER_5 (m : MS) : f_X7_reckon m 5 = (f_X7_less m ((f_X7_m m (mq_s m 19))) (mq_s m 16) 0) := (if_neg (by decide)).trans ((if_neg (by decide)).trans ((if_neg (by decide)).trans ((if_neg (by decide)).trans ((if_neg (by decide)).trans ((if_neg (by decide)).trans ((if_neg (by decide)).trans ((if_neg (by decide)).trans (if_pos (by decide)))))))))
theorem EL_5 (u : BS) : f_X4_calculate u 5 = (f_X4_combine (f_X4_operand u 5).2 (5 &&& 7) (f_X4_operand u 5).1 0 0) := (if_neg (by decide)).trans (if_neg (by decide))
theorem ER_6 (m : MS) : f_X7_reckon m 6 = (f_X7_right m 0) := if_pos (by decide)
theorem EL_6 (u : BS) : f_X4_calculate u 6 = (f_X4_shiftRight u 0) := if_pos (by decide)
theorem ER_7 (m : MS) : f_X7_reckon m 7 = (f_X7_less m (mq_s m 16) ((f_X7_m m (mq_s m 19))) 0) := (if_neg (by decide)).trans ((if_neg (by decide)).trans ((if_neg (by decide)).trans ((if_neg (by decide)).trans ((if_neg (by decide)).trans ((if_neg (by decide)).trans ((if_neg (by decide)).trans ((if_neg (by decide)).trans (if_neg (by decide)))))))))
theorem EL_7 (u : BS) : f_X4_calculate u 7 = (f_X4_combine (f_X4_operand u 7).2 (7 &&& 7) (f_X4_operand u 7).1 0 0) := (if_neg (by decide)).trans (if_neg (by decide))
theorem ER_8 (m : MS) : f_X7_reckon m 8 = (ms_s (f_X7_next m).2 (upd (mq_s (f_X7_next m).2) 16 ((f_X7_next m).1))) := (if_neg (by decide)).trans ((if_neg (by decide)).trans ((if_pos (by decide)).trans (if_pos (by decide))))
theorem EL_8 (u : BS) : f_X4_calculate u 8 = (f_X4_combine (f_X4_operand u 8).2 (8 &&& 7) (f_X4_operand u 8).1 0 0) := (if_neg (by decide)).trans (if_neg (by decide))
theorem EO_8 (u : BS) : f_X4_operand u 8 = ((f_X4_take u (bq_p u)).1, (f_X4_take u (bq_p u)).2) := if_pos (by decide)
theorem ER_9 (m : MS) : f_X7_reckon m 9 = (ms_s (f_X7_next m).2 (upd (mq_s (f_X7_next m).2) 16 ((mq_s (f_X7_next m).2 16) ||| ((f_X7_next m).1)))) := (if_neg (by decide)).trans ((if_neg (by decide)).trans ((if_pos (by decide)).trans ((if_neg (by decide)).trans (if_pos (by decide)))))
theorem EL_9 (u : BS) : f_X4_calculate u 9 = (f_X4_combine (f_X4_operand u 9).2 (9 &&& 7) (f_X4_operand u 9).1 0 0) := (if_neg (by decide)).trans (if_neg (by decide))
theorem EO_9 (u : BS) : f_X4_operand u 9 = ((f_X4_take u (bq_p u)).1, (f_X4_take u (bq_p u)).2) := if_pos (by decide)
theorem ER_10 (m : MS) : f_X7_reckon m 10 = (ms_s (f_X7_next m).2 (upd (mq_s (f_X7_next m).2) 16 ((mq_s (f_X7_next m).2 16) &&& ((f_X7_next m).1)))) := (if_neg (by decide)).trans ((if_neg (by decide)).trans ((if_pos (by decide)).trans ((if_neg (by decide)).trans ((if_neg (by decide)).trans (if_pos (by decide))))))
theorem EL_10 (u : BS) : f_X4_calculate u 10 = (f_X4_combine (f_X4_operand u 10).2 (10 &&& 7) (f_X4_operand u 10).1 0 0) := (if_neg (by decide)).trans (if_neg (by decide))
theorem EO_10 (u : BS) : f_X4_operand u 10 = ((f_X4_take u (bq_p u)).1, (f_X4_take u (bq_p u)).2) := if_pos (by decide)
theorem ER_11 (m : MS) : f_X7_reckon m 11 = (ms_s (f_X7_next m).2 (upd (mq_s (f_X7_next m).2) 16 ((mq_s (f_X7_next m).2 16) ^^^ ((f_X7_next m).1)))) := (if_neg (by decide)).trans ((if_neg (by decide)).trans ((if_pos (by decide)).trans ((if_neg (by decide)).trans ((if_neg (by decide)).trans ((if_neg (by decide)).trans (if_pos (by decide)))))))
theorem EL_11 (u : BS) : f_X4_calculate u 11 = (f_X4_combine (f_X4_operand u 11).2 (11 &&& 7) (f_X4_operand u 11).1 0 0) := (if_neg (by decide)).trans (if_neg (by decide))
theorem EO_11 (u : BS) : f_X4_operand u 11 = ((f_X4_take u (bq_p u)).1, (f_X4_take u (bq_p u)).2) := if_pos (by decide)
theorem ER_12 (m : MS) : f_X7_reckon m 12 = (f_X7_sum (f_X7_next m).2 ((f_X7_next m).1) (mq_s (f_X7_next m).2 16)) := (if_neg (by decide)).trans ((if_neg (by decide)).trans ((if_pos (by decide)).trans ((if_neg (by decide)).trans ((if_neg (by decide)).trans ((if_neg (by decide)).trans ((if_neg (by decide)).trans (if_pos (by decide))))))))
theorem EL_12 (u : BS) : f_X4_calculate u 12 = (f_X4_combine (f_X4_operand u 12).2 (12 &&& 7) (f_X4_operand u 12).1 0 0) := (if_neg (by decide)).trans (if_neg (by decide))
theorem ER_13 (m : MS) : f_X7_reckon m 13 = (f_X7_less (f_X7_next m).2 ((f_X7_next m).1) (mq_s (f_X7_next m).2 16) 0) := (if_neg (by decide)).trans ((if_neg (by decide)).trans ((if_pos (by decide)).trans ((if_neg (by decide)).trans ((if_neg (by decide)).trans ((if_neg (by decide)).trans ((if_neg (by decide)).trans ((if_neg (by decide)).trans (if_pos (by decide)))))))))
theorem EL_13 (u : BS) : f_X4_calculate u 13 = (f_X4_combine (f_X4_operand u 13).2 (13 &&& 7) (f_X4_operand u 13).1 0 0) := (if_neg (by decide)).trans (if_neg (by decide))
theorem ER_14 (m : MS) : f_X7_reckon m 14 = (f_X7_left m 0) := (if_neg (by decide)).trans (if_pos (by decide))
theorem EL_14 (u : BS) : f_X4_calculate u 14 = (f_X4_shiftLeft u 0) := (if_neg (by decide)).trans (if_pos (by decide))
theorem ER_15 (m : MS) : f_X7_reckon m 15 = (f_X7_less (f_X7_next m).2 (mq_s (f_X7_next m).2 16) ((f_X7_next m).1) 0) := (if_neg (by decide)).trans ((if_neg (by decide)).trans ((if_pos (by decide)).trans ((if_neg (by decide)).trans ((if_neg (by decide)).trans ((if_neg (by decide)).trans ((if_neg (by decide)).trans ((if_neg (by decide)).trans (if_neg (by decide)))))))))
theorem EL_15 (u : BS) : f_X4_calculate u 15 = (f_X4_combine (f_X4_operand u 15).2 (15 &&& 7) (f_X4_operand u 15).1 0 0) := (if_neg (by decide)).trans (if_neg (by decide))
theorem EK_0 (u : BS) (z a b : Int32) : f_X4_combine u 0 z a b = (bs_d u z) := if_pos (by decide)
theorem EK_1 (u : BS) (z a b : Int32) : f_X4_combine u 1 z a b = (bs_d u ((bq_d u) ||| z)) := (if_neg (by decide)).trans (if_pos (by decide))
theorem EK_2 (u : BS) (z a b : Int32) : f_X4_combine u 2 z a b = (bs_d u ((bq_d u) &&& z)) := (if_neg (by decide)).trans ((if_neg (by decide)).trans (if_pos (by decide)))
theorem EK_3 (u : BS) (z a b : Int32) : f_X4_combine u 3 z a b = (bs_d u ((bq_d u) ^^^ z)) := (if_neg (by decide)).trans ((if_neg (by decide)).trans ((if_neg (by decide)).trans (if_pos (by decide))))
theorem EK_4 (u : BS) (z a b : Int32) : f_X4_combine u 4 z a b = (f_X4_add u z a) := (if_neg (by decide)).trans ((if_neg (by decide)).trans ((if_neg (by decide)).trans ((if_neg (by decide)).trans (if_pos (by decide)))))
theorem EK_5 (u : BS) (z a b : Int32) : f_X4_combine u 5 z a b = (f_X4_subtract u z (bq_d u) b) := (if_neg (by decide)).trans ((if_neg (by decide)).trans ((if_neg (by decide)).trans ((if_neg (by decide)).trans ((if_neg (by decide)).trans (if_pos (by decide))))))
theorem EK_7 (u : BS) (z a b : Int32) : f_X4_combine u 7 z a b = (f_X4_subtract u (bq_d u) z b) := (if_neg (by decide)).trans ((if_neg (by decide)).trans ((if_neg (by decide)).trans ((if_neg (by decide)).trans ((if_neg (by decide)).trans (if_neg (by decide))))))
theorem EX_0 (u : BS) (n : Int32) : f_X4_execute u 0 n = (f_X4_loadOrIdle u n) := if_pos (by decide)
theorem EX_1 (u : BS) (n : Int32) : f_X4_execute u 1 n = (f_X4_grow u n 1) := (if_neg (by decide)).trans (if_pos (by decide))
theorem EX_2 (u : BS) (n : Int32) : f_X4_execute u 2 n = (f_X4_grow u n (-1)) := (if_neg (by decide)).trans ((if_neg (by decide)).trans (if_pos (by decide)))
theorem EX_3 (u : BS) (n : Int32) : f_X4_execute u 3 n = (f_X4_branch u n) := (if_neg (by decide)).trans ((if_neg (by decide)).trans ((if_neg (by decide)).trans (if_pos (by decide))))
theorem EX_4 (u : BS) (n : Int32) : f_X4_execute u 4 n = (bs_d (f_X4_take u n).2 (f_X4_take u n).1) := (if_neg (by decide)).trans ((if_neg (by decide)).trans ((if_neg (by decide)).trans ((if_neg (by decide)).trans (if_pos (by decide)))))
theorem EX_5 (u : BS) (n : Int32) : f_X4_execute u 5 n = (f_X4_putAt u n (bq_d u)) := (if_neg (by decide)).trans ((if_neg (by decide)).trans ((if_neg (by decide)).trans ((if_neg (by decide)).trans ((if_neg (by decide)).trans (if_pos (by decide))))))
theorem EX_6 (u : BS) (n : Int32) : f_X4_execute u 6 n = (f_X4_transfer u n) := (if_neg (by decide)).trans ((if_neg (by decide)).trans ((if_neg (by decide)).trans ((if_neg (by decide)).trans ((if_neg (by decide)).trans ((if_neg (by decide)).trans (if_pos (by decide)))))))
theorem EX_7 (u : BS) (n : Int32) : f_X4_execute u 7 n = (f_X4_control u n) := (if_neg (by decide)).trans ((if_neg (by decide)).trans ((if_neg (by decide)).trans ((if_neg (by decide)).trans ((if_neg (by decide)).trans ((if_neg (by decide)).trans ((if_neg (by decide)).trans (if_pos (by decide))))))))
theorem EX_8 (u : BS) (n : Int32) : f_X4_execute u 8 n = (bs_d u ((f_X4_register u n) &&& 255)) := (if_neg (by decide)).trans ((if_neg (by decide)).trans ((if_neg (by decide)).trans ((if_neg (by decide)).trans ((if_neg (by decide)).trans ((if_neg (by decide)).trans ((if_neg (by decide)).trans ((if_neg (by decide)).trans (if_pos (by decide)))))))))
theorem EX_9 (u : BS) (n : Int32) : f_X4_execute u 9 n = (bs_d u ((f_X4_register u n) >>> ((8 : Int32) &&& 31))) := (if_neg (by decide)).trans ((if_neg (by decide)).trans ((if_neg (by decide)).trans ((if_neg (by decide)).trans ((if_neg (by decide)).trans ((if_neg (by decide)).trans ((if_neg (by decide)).trans ((if_neg (by decide)).trans ((if_neg (by decide)).trans (if_pos (by decide))))))))))
theorem EX_10 (u : BS) (n : Int32) : f_X4_execute u 10 n = (f_X4_putRegister u n (((f_X4_register u n) &&& 65280) + (bq_d u))) := (if_neg (by decide)).trans ((if_neg (by decide)).trans ((if_neg (by decide)).trans ((if_neg (by decide)).trans ((if_neg (by decide)).trans ((if_neg (by decide)).trans ((if_neg (by decide)).trans ((if_neg (by decide)).trans ((if_neg (by decide)).trans ((if_neg (by decide)).trans (if_pos (by decide)))))))))))
theorem EX_11 (u : BS) (n : Int32) : f_X4_execute u 11 n = (f_X4_putRegister u n (((f_X4_register u n) &&& 255) + ((256 : Int32) * (bq_d u)))) := (if_neg (by decide)).trans ((if_neg (by decide)).trans ((if_neg (by decide)).trans ((if_neg (by decide)).trans ((if_neg (by decide)).trans ((if_neg (by decide)).trans ((if_neg (by decide)).trans ((if_neg (by decide)).trans ((if_neg (by decide)).trans ((if_neg (by decide)).trans ((if_neg (by decide)).trans (if_pos (by decide))))))))))))
theorem EX_12 (u : BS) (n : Int32) : f_X4_execute u 12 n = (f_X4_goFar u n) := (if_neg (by decide)).trans ((if_neg (by decide)).trans ((if_neg (by decide)).trans ((if_neg (by decide)).trans ((if_neg (by decide)).trans ((if_neg (by decide)).trans ((if_neg (by decide)).trans ((if_neg (by decide)).trans ((if_neg (by decide)).trans ((if_neg (by decide)).trans ((if_neg (by decide)).trans ((if_neg (by decide)).trans (if_pos (by decide)))))))))))))
theorem EX_13 (u : BS) (n : Int32) : f_X4_execute u 13 n = (bs_p u n) := (if_neg (by decide)).trans ((if_neg (by decide)).trans ((if_neg (by decide)).trans ((if_neg (by decide)).trans ((if_neg (by decide)).trans ((if_neg (by decide)).trans ((if_neg (by decide)).trans ((if_neg (by decide)).trans ((if_neg (by decide)).trans ((if_neg (by decide)).trans ((if_neg (by decide)).trans ((if_neg (by decide)).trans ((if_neg (by decide)).trans (if_pos (by decide))))))))))))))
theorem EX_14 (u : BS) (n : Int32) : f_X4_execute u 14 n = (bs_x u n) := (if_neg (by decide)).trans ((if_neg (by decide)).trans ((if_neg (by decide)).trans ((if_neg (by decide)).trans ((if_neg (by decide)).trans ((if_neg (by decide)).trans ((if_neg (by decide)).trans ((if_neg (by decide)).trans ((if_neg (by decide)).trans ((if_neg (by decide)).trans ((if_neg (by decide)).trans ((if_neg (by decide)).trans ((if_neg (by decide)).trans ((if_neg (by decide)).trans (if_pos (by decide)))))))))))))))
theorem EX_15 (u : BS) (n : Int32) : f_X4_execute u 15 n = (f_X4_calculate u n) := (if_neg (by decide)).trans ((if_neg (by decide)).trans ((if_neg (by decide)).trans ((if_neg (by decide)).trans ((if_neg (by decide)).trans ((if_neg (by decide)).trans ((if_neg (by decide)).trans ((if_neg (by decide)).trans ((if_neg (by decide)).trans ((if_neg (by decide)).trans ((if_neg (by decide)).trans ((if_neg (by decide)).trans ((if_neg (by decide)).trans ((if_neg (by decide)).trans (if_neg (by decide)))))))))))))))
theorem EM_0 (m : MS) (n : Int32) : f_X7_moves m 0 n = (ms_s m (upd (mq_s m) 16 (f_X7_m m n))) := (if_neg (by decide)).trans ((if_neg (by decide)).trans ((if_neg (by decide)).trans ((if_neg (by decide)).trans ((if_neg (by decide)).trans ((if_neg (by decide)).trans ((if_neg (by decide)).trans ((if_neg (by decide)).trans ((if_neg (by decide)).trans (if_neg (by decide))))))))))
theorem EM_1 (m : MS) (n : Int32) : f_X7_moves m 1 n = (f_X7_grow m n 1) := if_pos (by decide)
theorem EM_2 (m : MS) (n : Int32) : f_X7_moves m 2 n = (f_X7_grow m n (-1)) := (if_neg (by decide)).trans (if_pos (by decide))
theorem EM_4 (m : MS) (n : Int32) : f_X7_moves m 4 n = (f_X7_grow (ms_s m (upd (mq_s m) 16 (f_X7_m m n))) n 1) := (if_neg (by decide)).trans ((if_neg (by decide)).trans ((if_neg (by decide)).trans ((if_neg (by decide)).trans ((if_neg (by decide)).trans ((if_neg (by decide)).trans ((if_neg (by decide)).trans ((if_neg (by decide)).trans ((if_neg (by decide)).trans (if_pos (by decide))))))))))
theorem EM_5 (m : MS) (n : Int32) : f_X7_moves m 5 n = (f_X7_store m (mq_s m (n).toNatClampNeg) (mq_s m 16)) := (if_neg (by decide)).trans ((if_neg (by decide)).trans (if_pos (by decide)))
theorem EM_8 (m : MS) (n : Int32) : f_X7_moves m 8 n = (ms_s m (upd (mq_s m) 16 ((mq_s m (n).toNatClampNeg) &&& 255))) := (if_neg (by decide)).trans ((if_neg (by decide)).trans ((if_neg (by decide)).trans (if_pos (by decide))))
theorem EM_9 (m : MS) (n : Int32) : f_X7_moves m 9 n = (ms_s m (upd (mq_s m) 16 ((mq_s m (n).toNatClampNeg) >>> ((8 : Int32) &&& 31)))) := (if_neg (by decide)).trans ((if_neg (by decide)).trans ((if_neg (by decide)).trans ((if_neg (by decide)).trans (if_pos (by decide)))))
theorem EM_10 (m : MS) (n : Int32) : f_X7_moves m 10 n = (f_X7_low m n (mq_s m 16)) := (if_neg (by decide)).trans ((if_neg (by decide)).trans ((if_neg (by decide)).trans ((if_neg (by decide)).trans ((if_neg (by decide)).trans (if_pos (by decide))))))
theorem EM_11 (m : MS) (n : Int32) : f_X7_moves m 11 n = (ms_s m (upd (mq_s m) (n).toNatClampNeg (((mq_s m 16) <<< ((8 : Int32) &&& 31)) ||| ((mq_s m (n).toNatClampNeg) &&& 255)))) := (if_neg (by decide)).trans ((if_neg (by decide)).trans ((if_neg (by decide)).trans ((if_neg (by decide)).trans ((if_neg (by decide)).trans ((if_neg (by decide)).trans (if_pos (by decide)))))))
theorem EM_13 (m : MS) (n : Int32) : f_X7_moves m 13 n = (ms_s m (upd (mq_s m) 18 n)) := (if_neg (by decide)).trans ((if_neg (by decide)).trans ((if_neg (by decide)).trans ((if_neg (by decide)).trans ((if_neg (by decide)).trans ((if_neg (by decide)).trans ((if_neg (by decide)).trans (if_pos (by decide))))))))
theorem EM_14 (m : MS) (n : Int32) : f_X7_moves m 14 n = (ms_s m (upd (mq_s m) 19 n)) := (if_neg (by decide)).trans ((if_neg (by decide)).trans ((if_neg (by decide)).trans ((if_neg (by decide)).trans ((if_neg (by decide)).trans ((if_neg (by decide)).trans ((if_neg (by decide)).trans ((if_neg (by decide)).trans (if_pos (by decide)))))))))
theorem k_0 {w : BS} (th z : Int32) : ms_s (aM th w) (upd (mq_s (aM th w)) 16 z) = aM th (f_X4_combine w 0 z 0 0) := by rw [EK_0]; exact M_d _ _ _
theorem k_1 {w : BS} (th z : Int32) : ms_s (aM th w) (upd (mq_s (aM th w)) 16 (mq_s (aM th w) 16 ||| z)) = aM th (f_X4_combine w 1 z 0 0) := by rw [EK_1]; exact M_d _ _ _
theorem k_2 {w : BS} (th z : Int32) : ms_s (aM th w) (upd (mq_s (aM th w)) 16 (mq_s (aM th w) 16 &&& z)) = aM th (f_X4_combine w 2 z 0 0) := by rw [EK_2]; exact M_d _ _ _
theorem k_3 {w : BS} (th z : Int32) : ms_s (aM th w) (upd (mq_s (aM th w)) 16 (mq_s (aM th w) 16 ^^^ z)) = aM th (f_X4_combine w 3 z 0 0) := by rw [EK_3]; exact M_d _ _ _
theorem k_4 {w : BS} (th z : Int32) : f_X7_sum (aM th w) z (mq_s (aM th w) 16) = aM th (f_X4_combine w 4 z 0 0) := by rw [EK_4]; exact s_sum _ _
theorem k_5 {w : BS} (th z : Int32) : f_X7_less (aM th w) z (mq_s (aM th w) 16) 0 = aM th (f_X4_combine w 5 z 0 0) := by rw [EK_5]; exact s_less _ _ _ _
theorem k_7 {w : BS} (th z : Int32) : f_X7_less (aM th w) (mq_s (aM th w) 16) z 0 = aM th (f_X4_combine w 7 z 0 0) := by rw [EK_7]; exact s_less _ _ _ _
theorem i_k {w : BS} {c z : Int32} (h : Inv w) (hz : rg 256 z) (hc : c = 0 ∨ c = 1 ∨ c = 2 ∨ c = 3 ∨ c = 4 ∨ c = 5 ∨ c = 7) : Inv (f_X4_combine w c z 0 0) := by
  have q := ar_or8 (r_d h) hz
  rcases hc with rfl | rfl | rfl | rfl | rfl | rfl | rfl
  · rw [EK_0]; exact i_d h hz
  · rw [EK_1]; exact i_d h q.1
  · rw [EK_2]; exact i_d h q.2.1
  · rw [EK_3]; exact i_d h q.2.2
  · rw [EK_4]; exact i_add h hz (rg_0 (by decide))
  · rw [EK_5]; exact i_sub h _ _ _
  · rw [EK_7]; exact i_sub h _ _ _
theorem s_reckon {u : BS} {n : Int32} (th : Int32) (h : Inv u) (hn : rg 16 n) : f_X7_reckon (aM th u) n = aM th (f_X4_calculate u n) :=
  nib hn (P := fun n => f_X7_reckon (aM th u) n = aM th (f_X4_calculate u n)) (by rw [ER_0, EL_0, EO_0, m_x, s_m th (r_x h), show (0 : Int32) &&& 7 = 0 from by decide]; exact k_0 th _) (by rw [ER_1, EL_1, EO_1, m_x, s_m th (r_x h), show (1 : Int32) &&& 7 = 1 from by decide]; exact k_1 th _) (by rw [ER_2, EL_2, EO_2, m_x, s_m th (r_x h), show (2 : Int32) &&& 7 = 2 from by decide]; exact k_2 th _) (by rw [ER_3, EL_3, EO_3, m_x, s_m th (r_x h), show (3 : Int32) &&& 7 = 3 from by decide]; exact k_3 th _) (by rw [ER_4, EL_4, EO_4, m_x, s_m th (r_x h), show (4 : Int32) &&& 7 = 4 from by decide]; exact k_4 th _) (by rw [ER_5, EL_5, EO_5, m_x, s_m th (r_x h), show (5 : Int32) &&& 7 = 5 from by decide]; exact k_5 th _) (by rw [ER_6, EL_6]; exact s_right th _) (by rw [ER_7, EL_7, EO_7, m_x, s_m th (r_x h), show (7 : Int32) &&& 7 = 7 from by decide]; exact k_7 th _) (by rw [ER_8, EL_8, EO_8, s_next th h, show (8 : Int32) &&& 7 = 0 from by decide]; exact k_0 th _) (by rw [ER_9, EL_9, EO_9, s_next th h, show (9 : Int32) &&& 7 = 1 from by decide]; exact k_1 th _) (by rw [ER_10, EL_10, EO_10, s_next th h, show (10 : Int32) &&& 7 = 2 from by decide]; exact k_2 th _) (by rw [ER_11, EL_11, EO_11, s_next th h, show (11 : Int32) &&& 7 = 3 from by decide]; exact k_3 th _) (by rw [ER_12, EL_12, EO_12, s_next th h, show (12 : Int32) &&& 7 = 4 from by decide]; exact k_4 th _) (by rw [ER_13, EL_13, EO_13, s_next th h, show (13 : Int32) &&& 7 = 5 from by decide]; exact k_5 th _) (by rw [ER_14, EL_14]; exact s_left th h (rg_0 (by decide))) (by rw [ER_15, EL_15, EO_15, s_next th h, show (15 : Int32) &&& 7 = 7 from by decide]; exact k_7 th _)
theorem i_reckon {u : BS} {n : Int32} (h : Inv u) (hn : rg 16 n) : Inv (f_X4_calculate u n) :=
  nib hn (P := fun n => Inv (f_X4_calculate u n)) (by rw [EL_0, EO_0, show (0 : Int32) &&& 7 = 0 from by decide]; exact i_k h (r_at h _) (by decide)) (by rw [EL_1, EO_1, show (1 : Int32) &&& 7 = 1 from by decide]; exact i_k h (r_at h _) (by decide)) (by rw [EL_2, EO_2, show (2 : Int32) &&& 7 = 2 from by decide]; exact i_k h (r_at h _) (by decide)) (by rw [EL_3, EO_3, show (3 : Int32) &&& 7 = 3 from by decide]; exact i_k h (r_at h _) (by decide)) (by rw [EL_4, EO_4, show (4 : Int32) &&& 7 = 4 from by decide]; exact i_k h (r_at h _) (by decide)) (by rw [EL_5, EO_5, show (5 : Int32) &&& 7 = 5 from by decide]; exact i_k h (r_at h _) (by decide)) (by rw [EL_6]; exact i_right h (rg_0 (by decide))) (by rw [EL_7, EO_7, show (7 : Int32) &&& 7 = 7 from by decide]; exact i_k h (r_at h _) (by decide)) (by rw [EL_8, EO_8, show (8 : Int32) &&& 7 = 0 from by decide]; exact i_k (i_take h _) (r_take h _) (by decide)) (by rw [EL_9, EO_9, show (9 : Int32) &&& 7 = 1 from by decide]; exact i_k (i_take h _) (r_take h _) (by decide)) (by rw [EL_10, EO_10, show (10 : Int32) &&& 7 = 2 from by decide]; exact i_k (i_take h _) (r_take h _) (by decide)) (by rw [EL_11, EO_11, show (11 : Int32) &&& 7 = 3 from by decide]; exact i_k (i_take h _) (r_take h _) (by decide)) (by rw [EL_12, EO_12, show (12 : Int32) &&& 7 = 4 from by decide]; exact i_k (i_take h _) (r_take h _) (by decide)) (by rw [EL_13, EO_13, show (13 : Int32) &&& 7 = 5 from by decide]; exact i_k (i_take h _) (r_take h _) (by decide)) (by rw [EL_14]; exact i_left h (rg_0 (by decide))) (by rw [EL_15, EO_15, show (15 : Int32) &&& 7 = 7 from by decide]; exact i_k (i_take h _) (r_take h _) (by decide))
theorem o_reckon {u : BS} {n : Int32} (th : Int32) (h : Inv u) : ok_X7_reckon (aM th u) n := by
  have a1 := o_next th h
  have a2 : ok_X7_m (aM th u) (mq_s (aM th u) 19) := om (r_x h)
  unfold ok_X7_reckon
  simp only [a1, a2, ite_self, and_self]
def dsp (m : MS) (t2 t3 t4 : Int32) : Int32 × MS :=
  if t2 = 0 then (if t3 = 12 then (3, ms_s m (upd (mq_s m) 23 1)) else (2, ms_s m (upd (mq_s m) 23 1)))
  else if t3 = 3 then (2, f_X7_branch m t4)
  else if t3 = 6 then (if t4 = 0 then (2, f_X7_grow m (mq_s m 19) 1) else (2, f_X7_port m t4))
  else if t3 = 7 then (2, f_X7_seven m t4)
  else if t3 = 12 then (3, f_X7_wide m t4)
  else if t3 = 15 then (2, f_X7_reckon m t4)
  else (2, f_X7_moves m t3 t4)
def okd (m : MS) (t2 t3 t4 : Int32) : Prop :=
  if t2 = 0 then (if t3 = 12 then True else True)
  else if t3 = 3 then (ok_X7_branch m t4 ∧ True)
  else if t3 = 6 then (if t4 = 0 then (ok_X7_grow m (mq_s m 19) 1 ∧ True) else (ok_X7_port m t4 ∧ True))
  else if t3 = 7 then (ok_X7_seven m t4 ∧ True)
  else if t3 = 12 then (ok_X7_wide m t4 ∧ True)
  else if t3 = 15 then (ok_X7_reckon m t4 ∧ True)
  else (ok_X7_moves m t3 t4 ∧ True)
theorem s_ins0 (m : MS) : f_X7_instruction m = if mq_s m 23 = 1 then (1, m) else dsp (f_X7_next m).2 (f_X7_next m).1 ((f_X7_next m).1 >>> ((4 : Int32) &&& 31)) ((f_X7_next m).1 &&& 15) := rfl
theorem o_ins0 (m : MS) : ok_X7_instruction m = if mq_s m 23 = 1 then True else (ok_X7_next m ∧ okd (f_X7_next m).2 (f_X7_next m).1 ((f_X7_next m).1 >>> ((4 : Int32) &&& 31)) ((f_X7_next m).1 &&& 15)) := rfl
def DR (th : Int32) (w : BS) (t2 c n : Int32) : Prop := okd (aM th w) t2 c n ∧ dsp (aM th w) t2 c n = ((if c = 12 then 3 else 2), aM th (f_X4_execute w c n)) ∧ Inv (f_X4_execute w c n)
theorem d_0 {w : BS} {n t2 : Int32} (th : Int32) (h : Inv w) (hn : rg 16 n) (h0 : t2 = 0 ↔ (0 : Int32) = 0 ∧ n = 0) : DR th w t2 0 n := by
  by_cases e : n = 0
  · have e2 : t2 = 0 := h0.mpr ⟨rfl, e⟩
    subst e2 e
    refine ⟨?_, ?_, ?_⟩
    · exact trivial
    · rw [EX_0]
      show ((2 : Int32), ms_s (aM th w) (upd (mq_s (aM th w)) 23 1)) = (2, aM th (bs_idle w 1))
      rw [M_idle]
    · rw [EX_0]; exact i_idle h ⟨1, by decide, by decide⟩
  · have hne : t2 ≠ 0 := fun q => e (h0.mp q).2
    have el : f_X4_loadOrIdle w n = bs_d w (f_X4_at w n) := if_neg e
    refine ⟨?_, ?_, ?_⟩
    · unfold okd; rw [if_neg hne]; exact ⟨⟨om hn, trivial⟩, trivial⟩
    · unfold dsp; rw [if_neg hne, EX_0, el]
      show ((2 : Int32), f_X7_moves (aM th w) 0 n) = (2, aM th (bs_d w (f_X4_at w n)))
      rw [EM_0, s_m th hn, M_d]
    · rw [EX_0, el]; exact i_d h (r_at h _)
theorem d_6 {w : BS} {n t2 : Int32} (th : Int32) (h : Inv w) (hn : rg 16 n) (hne : t2 ≠ 0) : DR th w t2 6 n := by
  by_cases e : n = 0
  · subst e
    refine ⟨?_, ?_, ?_⟩
    · unfold okd; rw [if_neg hne]; exact ⟨og (r_x h), trivial⟩
    · unfold dsp; rw [if_neg hne, EX_6]
      show ((2 : Int32), f_X7_grow (aM th w) (bq_x w) 1) = (2, aM th (f_X4_grow w (bq_x w) 1))
      rw [s_grow th (r_x h)]
    · rw [EX_6]; exact i_transfer h _
  · refine ⟨?_, ?_, ?_⟩
    · unfold okd; rw [if_neg hne, if_neg (by decide), if_pos rfl, if_neg e]; exact ⟨o_port th h, trivial⟩
    · unfold dsp; rw [if_neg hne, if_neg (by decide), if_pos rfl, if_neg e, EX_6, s_port th h hn e]; rfl
    · rw [EX_6]; exact i_transfer h _
theorem d_1 {w : BS} {n t2 : Int32} (th : Int32) (h : Inv w) (hn : rg 16 n) (hne : t2 ≠ 0) : DR th w t2 1 n := by
  refine ⟨?_, ?_, ?_⟩
  · unfold okd; rw [if_neg hne]; exact ⟨⟨og hn, trivial⟩, trivial⟩
  · unfold dsp; rw [if_neg hne]
    show ((2 : Int32), f_X7_moves (aM th w) 1 n) = (2, aM th (f_X4_execute w 1 n))
    rw [EX_1, EM_1, s_grow th hn]
  · rw [EX_1]; exact i_grow h _ _
theorem d_2 {w : BS} {n t2 : Int32} (th : Int32) (h : Inv w) (hn : rg 16 n) (hne : t2 ≠ 0) : DR th w t2 2 n := by
  refine ⟨?_, ?_, ?_⟩
  · unfold okd; rw [if_neg hne]; exact ⟨⟨og hn, trivial⟩, trivial⟩
  · unfold dsp; rw [if_neg hne]
    show ((2 : Int32), f_X7_moves (aM th w) 2 n) = (2, aM th (f_X4_execute w 2 n))
    rw [EX_2, EM_2, s_grow th hn]
  · rw [EX_2]; exact i_grow h _ _
theorem d_3 {w : BS} {n t2 : Int32} (th : Int32) (h : Inv w) (hn : rg 16 n) (hne : t2 ≠ 0) : DR th w t2 3 n := by
  refine ⟨?_, ?_, ?_⟩
  · unfold okd; rw [if_neg hne]; exact ⟨o_branch th h, trivial⟩
  · unfold dsp; rw [if_neg hne]
    show ((2 : Int32), f_X7_branch (aM th w) n) = (2, aM th (f_X4_execute w 3 n))
    rw [EX_3, s_branch th h hn]
  · rw [EX_3]; exact i_branch h _
theorem d_4 {w : BS} {n t2 : Int32} (th : Int32) (h : Inv w) (hn : rg 16 n) (hne : t2 ≠ 0) : DR th w t2 4 n := by
  refine ⟨?_, ?_, ?_⟩
  · unfold okd; rw [if_neg hne]; exact ⟨⟨om hn, og hn, trivial⟩, trivial⟩
  · unfold dsp; rw [if_neg hne]
    show ((2 : Int32), f_X7_moves (aM th w) 4 n) = (2, aM th (f_X4_execute w 4 n))
    rw [EX_4, EM_4, s_m th hn, M_d, s_grow th hn]; rfl
  · rw [EX_4]; exact i_d (i_take h _) (r_take h _)
theorem d_5 {w : BS} {n t2 : Int32} (th : Int32) (h : Inv w) (hn : rg 16 n) (hne : t2 ≠ 0) : DR th w t2 5 n := by
  refine ⟨?_, ?_, ?_⟩
  · unfold okd; rw [if_neg hne]; exact ⟨⟨i24 hn, trivial⟩, trivial⟩
  · unfold dsp; rw [if_neg hne]
    show ((2 : Int32), f_X7_moves (aM th w) 5 n) = (2, aM th (f_X4_execute w 5 n))
    rw [EX_5, EM_5, s_reg th hn, s_store]; rfl
  · rw [EX_5]; exact i_putAt h _ _
theorem d_7 {w : BS} {n t2 : Int32} (th : Int32) (h : Inv w) (hn : rg 16 n) (hne : t2 ≠ 0) : DR th w t2 7 n := by
  refine ⟨?_, ?_, ?_⟩
  · unfold okd; rw [if_neg hne]; exact ⟨o_seven th h hn, trivial⟩
  · unfold dsp; rw [if_neg hne]
    show ((2 : Int32), f_X7_seven (aM th w) n) = (2, aM th (f_X4_execute w 7 n))
    rw [EX_7, s_seven th h hn]
  · rw [EX_7]; exact i_seven h hn
theorem d_8 {w : BS} {n t2 : Int32} (th : Int32) (h : Inv w) (hn : rg 16 n) (hne : t2 ≠ 0) : DR th w t2 8 n := by
  refine ⟨?_, ?_, ?_⟩
  · unfold okd; rw [if_neg hne]; exact ⟨⟨i24 hn, trivial⟩, trivial⟩
  · unfold dsp; rw [if_neg hne]
    show ((2 : Int32), f_X7_moves (aM th w) 8 n) = (2, aM th (f_X4_execute w 8 n))
    rw [EX_8, EM_8, s_reg th hn, M_d]
  · rw [EX_8]; exact i_d h (rg_255 _)
theorem d_9 {w : BS} {n t2 : Int32} (th : Int32) (h : Inv w) (hn : rg 16 n) (hne : t2 ≠ 0) : DR th w t2 9 n := by
  refine ⟨?_, ?_, ?_⟩
  · unfold okd; rw [if_neg hne]; exact ⟨⟨i24 hn, trivial⟩, trivial⟩
  · unfold dsp; rw [if_neg hne]
    show ((2 : Int32), f_X7_moves (aM th w) 9 n) = (2, aM th (f_X4_execute w 9 n))
    rw [EX_9, EM_9, s_reg th hn, M_d]
  · rw [EX_9]; exact i_d h (ar_hi8 (r_reg h _))
theorem d_10 {w : BS} {n t2 : Int32} (th : Int32) (h : Inv w) (hn : rg 16 n) (hne : t2 ≠ 0) : DR th w t2 10 n := by
  refine ⟨?_, ?_, ?_⟩
  · unfold okd; rw [if_neg hne]; exact ⟨⟨ol hn, trivial⟩, trivial⟩
  · unfold dsp; rw [if_neg hne]
    show ((2 : Int32), f_X7_moves (aM th w) 10 n) = (2, aM th (f_X4_execute w 10 n))
    rw [EX_10, EM_10, s_low th h hn (show rg 256 (mq_s (aM th w) 16) from r_d h)]; rfl
  · rw [EX_10]; exact i_put h _ _
theorem d_11 {w : BS} {n t2 : Int32} (th : Int32) (h : Inv w) (hn : rg 16 n) (hne : t2 ≠ 0) : DR th w t2 11 n := by
  refine ⟨?_, ?_, ?_⟩
  · unfold okd; rw [if_neg hne]; exact ⟨⟨i24 hn, i24 hn, trivial⟩, trivial⟩
  · unfold dsp; rw [if_neg hne]
    show ((2 : Int32), f_X7_moves (aM th w) 11 n) = (2, aM th (f_X4_execute w 11 n))
    rw [EX_11, EM_11, s_reg th hn, ar_high (r_reg h n) (show rg 256 (mq_s (aM th w) 16) from r_d h), s_put2 th hn]; rfl
  · rw [EX_11]; exact i_put h _ _
theorem d_12 {w : BS} {n t2 : Int32} (th : Int32) (h : Inv w) (hn : rg 16 n) (hne : t2 ≠ 0) : DR th w t2 12 n := by
  refine ⟨?_, ?_, ?_⟩
  · unfold okd; rw [if_neg hne]; exact ⟨o_wide th h, trivial⟩
  · unfold dsp; rw [if_neg hne]
    show ((3 : Int32), f_X7_wide (aM th w) n) = (3, aM th (f_X4_execute w 12 n))
    rw [EX_12, s_wide th h hn]
  · rw [EX_12]; exact i_goFar h _
theorem d_13 {w : BS} {n t2 : Int32} (th : Int32) (h : Inv w) (hn : rg 16 n) (hne : t2 ≠ 0) : DR th w t2 13 n := by
  refine ⟨?_, ?_, ?_⟩
  · unfold okd; rw [if_neg hne]; exact ⟨trivial, trivial⟩
  · unfold dsp; rw [if_neg hne]
    show ((2 : Int32), f_X7_moves (aM th w) 13 n) = (2, aM th (f_X4_execute w 13 n))
    rw [EX_13, EM_13, M_p]
  · rw [EX_13]; exact i_p h hn
theorem d_14 {w : BS} {n t2 : Int32} (th : Int32) (h : Inv w) (hn : rg 16 n) (hne : t2 ≠ 0) : DR th w t2 14 n := by
  refine ⟨?_, ?_, ?_⟩
  · unfold okd; rw [if_neg hne]; exact ⟨trivial, trivial⟩
  · unfold dsp; rw [if_neg hne]
    show ((2 : Int32), f_X7_moves (aM th w) 14 n) = (2, aM th (f_X4_execute w 14 n))
    rw [EX_14, EM_14, M_x]
  · rw [EX_14]; exact i_x h hn
theorem d_15 {w : BS} {n t2 : Int32} (th : Int32) (h : Inv w) (hn : rg 16 n) (hne : t2 ≠ 0) : DR th w t2 15 n := by
  refine ⟨?_, ?_, ?_⟩
  · unfold okd; rw [if_neg hne]; exact ⟨o_reckon th h, trivial⟩
  · unfold dsp; rw [if_neg hne]
    show ((2 : Int32), f_X7_reckon (aM th w) n) = (2, aM th (f_X4_execute w 15 n))
    rw [EX_15, s_reckon th h hn]
  · rw [EX_15]; exact i_reckon h hn
theorem s_dsp {w : BS} {c n t2 : Int32} (th : Int32) (h : Inv w) (hc : rg 16 c) (hn : rg 16 n) : (t2 = 0 ↔ c = 0 ∧ n = 0) → DR th w t2 c n := by
  have z : ∀ c : Int32, c ≠ 0 → (t2 = 0 ↔ c = 0 ∧ n = 0) → t2 ≠ 0 := fun c hc q e => hc (q.mp e).1
  exact nib hc (P := fun c => (t2 = 0 ↔ c = 0 ∧ n = 0) → DR th w t2 c n) (fun q => d_0 th h hn q) (fun q => d_1 th h hn (z _ (by decide) q)) (fun q => d_2 th h hn (z _ (by decide) q)) (fun q => d_3 th h hn (z _ (by decide) q)) (fun q => d_4 th h hn (z _ (by decide) q)) (fun q => d_5 th h hn (z _ (by decide) q)) (fun q => d_6 th h hn (z _ (by decide) q)) (fun q => d_7 th h hn (z _ (by decide) q)) (fun q => d_8 th h hn (z _ (by decide) q)) (fun q => d_9 th h hn (z _ (by decide) q)) (fun q => d_10 th h hn (z _ (by decide) q)) (fun q => d_11 th h hn (z _ (by decide) q)) (fun q => d_12 th h hn (z _ (by decide) q)) (fun q => d_13 th h hn (z _ (by decide) q)) (fun q => d_14 th h hn (z _ (by decide) q)) (fun q => d_15 th h hn (z _ (by decide) q))
theorem s_act {u : BS} (th : Int32) (h : Inv u) : ok_X7_instruction (aM th u) ∧ f_X7_instruction (aM th u) = ((f_X4_act u).1, aM th (f_X4_act u).2) ∧ Inv (f_X4_act u).2 := by
  rw [s_ins0, o_ins0, m_idle]
  rcases ar_2 (r_idle h) with e | e
  · have hb := r_take h (bq_p u)
    have hw := i_take h (bq_p u)
    have hc : rg 16 ((f_X4_take u (bq_p u)).1 >>> ((4 : Int32) &&& 31)) := ar_nib hb
    have hn : rg 16 ((f_X4_take u (bq_p u)).1 &&& 15) := rg_15 _
    have h0 : (f_X4_take u (bq_p u)).1 = 0 ↔ (f_X4_take u (bq_p u)).1 >>> ((4 : Int32) &&& 31) = 0 ∧ (f_X4_take u (bq_p u)).1 &&& 15 = 0 := by
      obtain ⟨k, hk, ek⟩ := hb
      rw [ek, pk_shrN (by omega) _ 4 rfl, pk_andN (by omega) 4 rfl, ← nI_0, nI_eq (by omega) (by omega), nI_eq (by omega) (by omega), nI_eq (by omega) (by omega)]
      omega
    obtain ⟨d1, d2, d3⟩ := s_dsp th hw hc hn h0
    have ea : f_X4_act u = (if (f_X4_take u (bq_p u)).1 >>> ((4 : Int32) &&& 31) = 12 then (3, f_X4_execute (f_X4_take u (bq_p u)).2 ((f_X4_take u (bq_p u)).1 >>> ((4 : Int32) &&& 31)) ((f_X4_take u (bq_p u)).1 &&& 15)) else (2, f_X4_execute (f_X4_take u (bq_p u)).2 ((f_X4_take u (bq_p u)).1 >>> ((4 : Int32) &&& 31)) ((f_X4_take u (bq_p u)).1 &&& 15))) := if_pos e
    rw [if_neg (by rw [e]; decide), if_neg (by rw [e]; decide), s_next th h, ea]
    refine ⟨⟨o_next th h, d1⟩, d2.trans ?_, ?_⟩
    · split <;> rfl
    · split <;> exact d3
  · have ea : f_X4_act u = (1, u) := if_neg (by rw [e]; decide)
    rw [if_pos e, if_pos e, ea]
    exact ⟨trivial, rfl, h⟩
theorem v_act (u : BS) : (f_X4_act u).1 = 1 ∨ (f_X4_act u).1 = 2 ∨ (f_X4_act u).1 = 3 := by
  unfold f_X4_act
  split
  · show (if _ then _ else _ : Int32 × BS).1 = 1 ∨ (if _ then _ else _ : Int32 × BS).1 = 2 ∨ (if _ then _ else _ : Int32 × BS).1 = 3
    split
    · exact Or.inr (Or.inr rfl)
    · exact Or.inr (Or.inl rfl)
  · exact Or.inl rfl
theorem o_sw {u : BS} (z : Int32) (hz : z = 0 ∨ z = 1) : ok_X3_switchTo u z := by
  rcases hz with rfl | rfl <;> exact ⟨⟨rfl, rfl⟩, trivial⟩
theorem o_act {u : BS} : ok_X4_act u := by
  have a0 : ∀ w : BS, ok_X3_switchTo w 0 := fun w => o_sw 0 (Or.inl rfl)
  have a1 : ∀ w : BS, ok_X3_switchTo w 1 := fun w => o_sw 1 (Or.inr rfl)
  unfold ok_X4_act ok_X4_execute ok_X4_transfer ok_X4_output
  simp only [a0, a1, ite_self, and_self]
