def stp (m : MS) (op : Int32) : Int32 × MS := (if (op >>> ((12 : Int32) &&& 31)) = 0 then ((f_X7_zero m op).1, (f_X7_zero m op).2) else (if (op >>> ((12 : Int32) &&& 31)) = 1 then (0, (ms_v m (upd (mq_v m) 17 ((op &&& 4095))))) else (if (op >>> ((12 : Int32) &&& 31)) = 2 then ((f_X7_call m ((op &&& 4095))).1, (f_X7_call m ((op &&& 4095))).2) else (if (op >>> ((12 : Int32) &&& 31)) = 3 then (if (mq_v m ((((op >>> ((8 : Int32) &&& 31)) &&& 15))).toNatClampNeg) = ((op &&& 255)) then (0, (f_X7_goesOn m 1)) else (0, (f_X7_goesOn m 0))) else (if (op >>> ((12 : Int32) &&& 31)) = 4 then (if (mq_v m ((((op >>> ((8 : Int32) &&& 31)) &&& 15))).toNatClampNeg) = ((op &&& 255)) then (0, (f_X7_goesOn m 0)) else (0, (f_X7_goesOn m 1))) else (if (op >>> ((12 : Int32) &&& 31)) = 5 then ((f_X7_compared m (((op >>> ((8 : Int32) &&& 31)) &&& 15)) (((op >>> ((4 : Int32) &&& 31)) &&& 15)) ((op &&& 15)) 1).1, (f_X7_compared m (((op >>> ((8 : Int32) &&& 31)) &&& 15)) (((op >>> ((4 : Int32) &&& 31)) &&& 15)) ((op &&& 15)) 1).2) else (if (op >>> ((12 : Int32) &&& 31)) = 8 then ((f_X7_eight m (((op >>> ((8 : Int32) &&& 31)) &&& 15)) (((op >>> ((4 : Int32) &&& 31)) &&& 15)) ((op &&& 15))).1, (f_X7_eight m (((op >>> ((8 : Int32) &&& 31)) &&& 15)) (((op >>> ((4 : Int32) &&& 31)) &&& 15)) ((op &&& 15))).2) else (if (op >>> ((12 : Int32) &&& 31)) = 9 then ((f_X7_compared m (((op >>> ((8 : Int32) &&& 31)) &&& 15)) (((op >>> ((4 : Int32) &&& 31)) &&& 15)) ((op &&& 15)) 0).1, (f_X7_compared m (((op >>> ((8 : Int32) &&& 31)) &&& 15)) (((op >>> ((4 : Int32) &&& 31)) &&& 15)) ((op &&& 15)) 0).2) else (if (op >>> ((12 : Int32) &&& 31)) = 11 then (0, (ms_v m (upd (mq_v m) 17 ((((op &&& 4095)) + (mq_v m 0)) &&& 4095)))) else (if (op >>> ((12 : Int32) &&& 31)) = 14 then ((f_X7_keyed m (((op >>> ((8 : Int32) &&& 31)) &&& 15)) ((op &&& 255))).1, (f_X7_keyed m (((op >>> ((8 : Int32) &&& 31)) &&& 15)) ((op &&& 255))).2) else (if (op >>> ((12 : Int32) &&& 31)) = 15 then ((f_X7_fifteen m (((op >>> ((8 : Int32) &&& 31)) &&& 15)) ((op &&& 255))).1, (f_X7_fifteen m (((op >>> ((8 : Int32) &&& 31)) &&& 15)) ((op &&& 255))).2) else (0, (f_X7_simple m op)))))))))))))
theorem step_eq (m : MS) : f_X7_step m = stp m (((f_X7_byteAt m (mq_v m 17)) <<< ((8 : Int32) &&& 31)) ||| (f_X7_byteAt m ((mq_v m 17) + 1))) := rfl
theorem Z_stp (m : MS) (op : Int32) : stp m op = (if (op >>> ((12 : Int32) &&& 31)) = 0 then ((f_X7_zero m op).1, (f_X7_zero m op).2) else (if (op >>> ((12 : Int32) &&& 31)) = 1 then (0, (ms_v m (upd (mq_v m) 17 ((op &&& 4095))))) else (if (op >>> ((12 : Int32) &&& 31)) = 2 then ((f_X7_call m ((op &&& 4095))).1, (f_X7_call m ((op &&& 4095))).2) else (if (op >>> ((12 : Int32) &&& 31)) = 3 then (if (mq_v m ((((op >>> ((8 : Int32) &&& 31)) &&& 15))).toNatClampNeg) = ((op &&& 255)) then (0, (f_X7_goesOn m 1)) else (0, (f_X7_goesOn m 0))) else (if (op >>> ((12 : Int32) &&& 31)) = 4 then (if (mq_v m ((((op >>> ((8 : Int32) &&& 31)) &&& 15))).toNatClampNeg) = ((op &&& 255)) then (0, (f_X7_goesOn m 0)) else (0, (f_X7_goesOn m 1))) else (if (op >>> ((12 : Int32) &&& 31)) = 5 then ((f_X7_compared m (((op >>> ((8 : Int32) &&& 31)) &&& 15)) (((op >>> ((4 : Int32) &&& 31)) &&& 15)) ((op &&& 15)) 1).1, (f_X7_compared m (((op >>> ((8 : Int32) &&& 31)) &&& 15)) (((op >>> ((4 : Int32) &&& 31)) &&& 15)) ((op &&& 15)) 1).2) else (if (op >>> ((12 : Int32) &&& 31)) = 8 then ((f_X7_eight m (((op >>> ((8 : Int32) &&& 31)) &&& 15)) (((op >>> ((4 : Int32) &&& 31)) &&& 15)) ((op &&& 15))).1, (f_X7_eight m (((op >>> ((8 : Int32) &&& 31)) &&& 15)) (((op >>> ((4 : Int32) &&& 31)) &&& 15)) ((op &&& 15))).2) else (if (op >>> ((12 : Int32) &&& 31)) = 9 then ((f_X7_compared m (((op >>> ((8 : Int32) &&& 31)) &&& 15)) (((op >>> ((4 : Int32) &&& 31)) &&& 15)) ((op &&& 15)) 0).1, (f_X7_compared m (((op >>> ((8 : Int32) &&& 31)) &&& 15)) (((op >>> ((4 : Int32) &&& 31)) &&& 15)) ((op &&& 15)) 0).2) else (if (op >>> ((12 : Int32) &&& 31)) = 11 then (0, (ms_v m (upd (mq_v m) 17 ((((op &&& 4095)) + (mq_v m 0)) &&& 4095)))) else (if (op >>> ((12 : Int32) &&& 31)) = 14 then ((f_X7_keyed m (((op >>> ((8 : Int32) &&& 31)) &&& 15)) ((op &&& 255))).1, (f_X7_keyed m (((op >>> ((8 : Int32) &&& 31)) &&& 15)) ((op &&& 255))).2) else (if (op >>> ((12 : Int32) &&& 31)) = 15 then ((f_X7_fifteen m (((op >>> ((8 : Int32) &&& 31)) &&& 15)) ((op &&& 255))).1, (f_X7_fifteen m (((op >>> ((8 : Int32) &&& 31)) &&& 15)) ((op &&& 255))).2) else (0, (f_X7_simple m op))))))))))))) := rfl
theorem Z_exec (u : BS) (op : Int32) : f_X1_execute u op = (if (op >>> ((12 : Int32) &&& 31)) = 0 then ((f_X1_clearOrLeave u op).1, (f_X1_clearOrLeave u op).2) else (if (op >>> ((12 : Int32) &&& 31)) = 1 then (0, (f_X1_jump u op)) else (if (op >>> ((12 : Int32) &&& 31)) = 2 then ((f_X1_enter u op).1, (f_X1_enter u op).2) else (if (op >>> ((12 : Int32) &&& 31)) = 3 then (if (f_X1_variable u (((op >>> ((8 : Int32) &&& 31)) &&& 15))) = ((op &&& 255)) then ((f_X1_skipIf u 1).1, (f_X1_skipIf u 1).2) else ((f_X1_skipIf u 0).1, (f_X1_skipIf u 0).2)) else (if (op >>> ((12 : Int32) &&& 31)) = 4 then (if (f_X1_variable u (((op >>> ((8 : Int32) &&& 31)) &&& 15))) = ((op &&& 255)) then ((f_X1_skipIf u 0).1, (f_X1_skipIf u 0).2) else ((f_X1_skipIf u 1).1, (f_X1_skipIf u 1).2)) else (if (op >>> ((12 : Int32) &&& 31)) = 5 then (if (f_X1_variable u (((op >>> ((8 : Int32) &&& 31)) &&& 15))) = (f_X1_variable u (((op >>> ((4 : Int32) &&& 31)) &&& 15))) then ((f_X1_compare u op 1).1, (f_X1_compare u op 1).2) else ((f_X1_compare u op 0).1, (f_X1_compare u op 0).2)) else (if (op >>> ((12 : Int32) &&& 31)) = 6 then (0, (f_X1_putVariable u (((op >>> ((8 : Int32) &&& 31)) &&& 15)) ((op &&& 255)))) else (if (op >>> ((12 : Int32) &&& 31)) = 7 then (0, (f_X1_putVariable u (((op >>> ((8 : Int32) &&& 31)) &&& 15)) ((f_X1_variable u (((op >>> ((8 : Int32) &&& 31)) &&& 15))) + ((op &&& 255))))) else (if (op >>> ((12 : Int32) &&& 31)) = 8 then ((f_X1_combine u (op &&& 15) (((op >>> ((8 : Int32) &&& 31)) &&& 15)) (f_X1_variable u (((op >>> ((4 : Int32) &&& 31)) &&& 15)))).1, (f_X1_combine u (op &&& 15) (((op >>> ((8 : Int32) &&& 31)) &&& 15)) (f_X1_variable u (((op >>> ((4 : Int32) &&& 31)) &&& 15)))).2) else (if (op >>> ((12 : Int32) &&& 31)) = 9 then (if (f_X1_variable u (((op >>> ((8 : Int32) &&& 31)) &&& 15))) = (f_X1_variable u (((op >>> ((4 : Int32) &&& 31)) &&& 15))) then ((f_X1_compare u op 1).1, (f_X1_compare u op 1).2) else ((f_X1_compare u op 0).1, (f_X1_compare u op 0).2)) else (if (op >>> ((12 : Int32) &&& 31)) = 10 then (0, (f_X1_putIndex u op)) else (if (op >>> ((12 : Int32) &&& 31)) = 11 then (0, (f_X1_jump u ((op &&& 4095) + (f_X1_variable u 0)))) else (if (op >>> ((12 : Int32) &&& 31)) = 12 then (0, (f_X1_putVariable (bs_random u ((((bq_random u) * 5) + 1) &&& 255)) (((op >>> ((8 : Int32) &&& 31)) &&& 15)) ((bq_random (bs_random u ((((bq_random u) * 5) + 1) &&& 255))) &&& ((op &&& 255))))) else (if (op >>> ((12 : Int32) &&& 31)) = 13 then (0, (f_X1_draw u (f_X1_variable u (((op >>> ((8 : Int32) &&& 31)) &&& 15))) (f_X1_variable u (((op >>> ((4 : Int32) &&& 31)) &&& 15))) (op &&& 15))) else (if (op >>> ((12 : Int32) &&& 31)) = 14 then ((f_X1_skipByKey u ((op &&& 255)) (f_X0_isDown u (f_X1_variable u (((op >>> ((8 : Int32) &&& 31)) &&& 15))))).1, (f_X1_skipByKey u ((op &&& 255)) (f_X0_isDown u (f_X1_variable u (((op >>> ((8 : Int32) &&& 31)) &&& 15))))).2) else (if ((op &&& 255)) < 48 then ((f_X1_executeSystem u (((op >>> ((8 : Int32) &&& 31)) &&& 15)) ((op &&& 255))).1, (f_X1_executeSystem u (((op >>> ((8 : Int32) &&& 31)) &&& 15)) ((op &&& 255))).2) else ((f_X1_executeStore u (((op >>> ((8 : Int32) &&& 31)) &&& 15)) ((op &&& 255))).1, (f_X1_executeStore u (((op >>> ((8 : Int32) &&& 31)) &&& 15)) ((op &&& 255))).2))))))))))))))))) := rfl
theorem Z_simple (m : MS) (op : Int32) : f_X7_simple m op = (if (op >>> ((12 : Int32) &&& 31)) = 6 then (f_X7_goesOn (ms_v m (upd (mq_v m) ((((op >>> ((8 : Int32) &&& 31)) &&& 15))).toNatClampNeg ((op &&& 255)))) 0) else (if (op >>> ((12 : Int32) &&& 31)) = 7 then (f_X7_goesOn (ms_v m (upd (mq_v m) ((((op >>> ((8 : Int32) &&& 31)) &&& 15))).toNatClampNeg (((mq_v m ((((op >>> ((8 : Int32) &&& 31)) &&& 15))).toNatClampNeg) + ((op &&& 255))) &&& 255))) 0) else (if (op >>> ((12 : Int32) &&& 31)) = 10 then (f_X7_goesOn (ms_v m (upd (mq_v m) 16 (op &&& 4095))) 0) else (if (op >>> ((12 : Int32) &&& 31)) = 12 then (f_X7_goesOn (f_X7_random m (((op >>> ((8 : Int32) &&& 31)) &&& 15)) ((op &&& 255))).2 0) else (f_X7_goesOn (f_X7_draw m (((op >>> ((8 : Int32) &&& 31)) &&& 15)) ((op >>> ((4 : Int32) &&& 31)) &&& 15) (op &&& 15)) 0))))) := rfl
theorem XM_0 (m : MS) {op : Int32} (hc : op >>> ((12 : Int32) &&& 31) = 0) : stp m op = ((f_X7_zero m op).1, (f_X7_zero m op).2) := (Z_stp m op).trans (if_pos (hc))
theorem XE_0 (u : BS) {op : Int32} (hc : op >>> ((12 : Int32) &&& 31) = 0) : f_X1_execute u op = ((f_X1_clearOrLeave u op).1, (f_X1_clearOrLeave u op).2) := (Z_exec u op).trans (if_pos (hc))
theorem XM_1 (m : MS) {op : Int32} (hc : op >>> ((12 : Int32) &&& 31) = 1) : stp m op = (0, (ms_v m (upd (mq_v m) 17 ((op &&& 4095))))) := (Z_stp m op).trans ((if_neg (by rw [hc]; decide)).trans (if_pos (hc)))
theorem XE_1 (u : BS) {op : Int32} (hc : op >>> ((12 : Int32) &&& 31) = 1) : f_X1_execute u op = (0, (f_X1_jump u op)) := (Z_exec u op).trans ((if_neg (by rw [hc]; decide)).trans (if_pos (hc)))
theorem XM_2 (m : MS) {op : Int32} (hc : op >>> ((12 : Int32) &&& 31) = 2) : stp m op = ((f_X7_call m ((op &&& 4095))).1, (f_X7_call m ((op &&& 4095))).2) := (Z_stp m op).trans ((if_neg (by rw [hc]; decide)).trans ((if_neg (by rw [hc]; decide)).trans (if_pos (hc))))
theorem XE_2 (u : BS) {op : Int32} (hc : op >>> ((12 : Int32) &&& 31) = 2) : f_X1_execute u op = ((f_X1_enter u op).1, (f_X1_enter u op).2) := (Z_exec u op).trans ((if_neg (by rw [hc]; decide)).trans ((if_neg (by rw [hc]; decide)).trans (if_pos (hc))))
theorem XM_3 (m : MS) {op : Int32} (hc : op >>> ((12 : Int32) &&& 31) = 3) : stp m op = (if (mq_v m ((((op >>> ((8 : Int32) &&& 31)) &&& 15))).toNatClampNeg) = ((op &&& 255)) then (0, (f_X7_goesOn m 1)) else (0, (f_X7_goesOn m 0))) := (Z_stp m op).trans ((if_neg (by rw [hc]; decide)).trans ((if_neg (by rw [hc]; decide)).trans ((if_neg (by rw [hc]; decide)).trans (if_pos (hc)))))
theorem XE_3 (u : BS) {op : Int32} (hc : op >>> ((12 : Int32) &&& 31) = 3) : f_X1_execute u op = (if (f_X1_variable u (((op >>> ((8 : Int32) &&& 31)) &&& 15))) = ((op &&& 255)) then ((f_X1_skipIf u 1).1, (f_X1_skipIf u 1).2) else ((f_X1_skipIf u 0).1, (f_X1_skipIf u 0).2)) := (Z_exec u op).trans ((if_neg (by rw [hc]; decide)).trans ((if_neg (by rw [hc]; decide)).trans ((if_neg (by rw [hc]; decide)).trans (if_pos (hc)))))
theorem XM_4 (m : MS) {op : Int32} (hc : op >>> ((12 : Int32) &&& 31) = 4) : stp m op = (if (mq_v m ((((op >>> ((8 : Int32) &&& 31)) &&& 15))).toNatClampNeg) = ((op &&& 255)) then (0, (f_X7_goesOn m 0)) else (0, (f_X7_goesOn m 1))) := (Z_stp m op).trans ((if_neg (by rw [hc]; decide)).trans ((if_neg (by rw [hc]; decide)).trans ((if_neg (by rw [hc]; decide)).trans ((if_neg (by rw [hc]; decide)).trans (if_pos (hc))))))
theorem XE_4 (u : BS) {op : Int32} (hc : op >>> ((12 : Int32) &&& 31) = 4) : f_X1_execute u op = (if (f_X1_variable u (((op >>> ((8 : Int32) &&& 31)) &&& 15))) = ((op &&& 255)) then ((f_X1_skipIf u 0).1, (f_X1_skipIf u 0).2) else ((f_X1_skipIf u 1).1, (f_X1_skipIf u 1).2)) := (Z_exec u op).trans ((if_neg (by rw [hc]; decide)).trans ((if_neg (by rw [hc]; decide)).trans ((if_neg (by rw [hc]; decide)).trans ((if_neg (by rw [hc]; decide)).trans (if_pos (hc))))))
theorem XM_5 (m : MS) {op : Int32} (hc : op >>> ((12 : Int32) &&& 31) = 5) : stp m op = ((f_X7_compared m (((op >>> ((8 : Int32) &&& 31)) &&& 15)) (((op >>> ((4 : Int32) &&& 31)) &&& 15)) ((op &&& 15)) 1).1, (f_X7_compared m (((op >>> ((8 : Int32) &&& 31)) &&& 15)) (((op >>> ((4 : Int32) &&& 31)) &&& 15)) ((op &&& 15)) 1).2) := (Z_stp m op).trans ((if_neg (by rw [hc]; decide)).trans ((if_neg (by rw [hc]; decide)).trans ((if_neg (by rw [hc]; decide)).trans ((if_neg (by rw [hc]; decide)).trans ((if_neg (by rw [hc]; decide)).trans (if_pos (hc)))))))
theorem XE_5 (u : BS) {op : Int32} (hc : op >>> ((12 : Int32) &&& 31) = 5) : f_X1_execute u op = (if (f_X1_variable u (((op >>> ((8 : Int32) &&& 31)) &&& 15))) = (f_X1_variable u (((op >>> ((4 : Int32) &&& 31)) &&& 15))) then ((f_X1_compare u op 1).1, (f_X1_compare u op 1).2) else ((f_X1_compare u op 0).1, (f_X1_compare u op 0).2)) := (Z_exec u op).trans ((if_neg (by rw [hc]; decide)).trans ((if_neg (by rw [hc]; decide)).trans ((if_neg (by rw [hc]; decide)).trans ((if_neg (by rw [hc]; decide)).trans ((if_neg (by rw [hc]; decide)).trans (if_pos (hc)))))))
theorem XM_6 (m : MS) {op : Int32} (hc : op >>> ((12 : Int32) &&& 31) = 6) : stp m op = (0, (f_X7_simple m op)) := (Z_stp m op).trans ((if_neg (by rw [hc]; decide)).trans ((if_neg (by rw [hc]; decide)).trans ((if_neg (by rw [hc]; decide)).trans ((if_neg (by rw [hc]; decide)).trans ((if_neg (by rw [hc]; decide)).trans ((if_neg (by rw [hc]; decide)).trans ((if_neg (by rw [hc]; decide)).trans ((if_neg (by rw [hc]; decide)).trans ((if_neg (by rw [hc]; decide)).trans ((if_neg (by rw [hc]; decide)).trans (if_neg (by rw [hc]; decide))))))))))))
theorem XE_6 (u : BS) {op : Int32} (hc : op >>> ((12 : Int32) &&& 31) = 6) : f_X1_execute u op = (0, (f_X1_putVariable u (((op >>> ((8 : Int32) &&& 31)) &&& 15)) ((op &&& 255)))) := (Z_exec u op).trans ((if_neg (by rw [hc]; decide)).trans ((if_neg (by rw [hc]; decide)).trans ((if_neg (by rw [hc]; decide)).trans ((if_neg (by rw [hc]; decide)).trans ((if_neg (by rw [hc]; decide)).trans ((if_neg (by rw [hc]; decide)).trans (if_pos (hc))))))))
theorem XS_6 (m : MS) {op : Int32} (hc : op >>> ((12 : Int32) &&& 31) = 6) : f_X7_simple m op = (f_X7_goesOn (ms_v m (upd (mq_v m) ((((op >>> ((8 : Int32) &&& 31)) &&& 15))).toNatClampNeg ((op &&& 255)))) 0) := (Z_simple m op).trans (if_pos (hc))
theorem XM_7 (m : MS) {op : Int32} (hc : op >>> ((12 : Int32) &&& 31) = 7) : stp m op = (0, (f_X7_simple m op)) := (Z_stp m op).trans ((if_neg (by rw [hc]; decide)).trans ((if_neg (by rw [hc]; decide)).trans ((if_neg (by rw [hc]; decide)).trans ((if_neg (by rw [hc]; decide)).trans ((if_neg (by rw [hc]; decide)).trans ((if_neg (by rw [hc]; decide)).trans ((if_neg (by rw [hc]; decide)).trans ((if_neg (by rw [hc]; decide)).trans ((if_neg (by rw [hc]; decide)).trans ((if_neg (by rw [hc]; decide)).trans (if_neg (by rw [hc]; decide))))))))))))
theorem XE_7 (u : BS) {op : Int32} (hc : op >>> ((12 : Int32) &&& 31) = 7) : f_X1_execute u op = (0, (f_X1_putVariable u (((op >>> ((8 : Int32) &&& 31)) &&& 15)) ((f_X1_variable u (((op >>> ((8 : Int32) &&& 31)) &&& 15))) + ((op &&& 255))))) := (Z_exec u op).trans ((if_neg (by rw [hc]; decide)).trans ((if_neg (by rw [hc]; decide)).trans ((if_neg (by rw [hc]; decide)).trans ((if_neg (by rw [hc]; decide)).trans ((if_neg (by rw [hc]; decide)).trans ((if_neg (by rw [hc]; decide)).trans ((if_neg (by rw [hc]; decide)).trans (if_pos (hc)))))))))
theorem XS_7 (m : MS) {op : Int32} (hc : op >>> ((12 : Int32) &&& 31) = 7) : f_X7_simple m op = (f_X7_goesOn (ms_v m (upd (mq_v m) ((((op >>> ((8 : Int32) &&& 31)) &&& 15))).toNatClampNeg (((mq_v m ((((op >>> ((8 : Int32) &&& 31)) &&& 15))).toNatClampNeg) + ((op &&& 255))) &&& 255))) 0) := (Z_simple m op).trans ((if_neg (by rw [hc]; decide)).trans (if_pos (hc)))
theorem XM_8 (m : MS) {op : Int32} (hc : op >>> ((12 : Int32) &&& 31) = 8) : stp m op = ((f_X7_eight m (((op >>> ((8 : Int32) &&& 31)) &&& 15)) (((op >>> ((4 : Int32) &&& 31)) &&& 15)) ((op &&& 15))).1, (f_X7_eight m (((op >>> ((8 : Int32) &&& 31)) &&& 15)) (((op >>> ((4 : Int32) &&& 31)) &&& 15)) ((op &&& 15))).2) := (Z_stp m op).trans ((if_neg (by rw [hc]; decide)).trans ((if_neg (by rw [hc]; decide)).trans ((if_neg (by rw [hc]; decide)).trans ((if_neg (by rw [hc]; decide)).trans ((if_neg (by rw [hc]; decide)).trans ((if_neg (by rw [hc]; decide)).trans (if_pos (hc))))))))
theorem XE_8 (u : BS) {op : Int32} (hc : op >>> ((12 : Int32) &&& 31) = 8) : f_X1_execute u op = ((f_X1_combine u (op &&& 15) (((op >>> ((8 : Int32) &&& 31)) &&& 15)) (f_X1_variable u (((op >>> ((4 : Int32) &&& 31)) &&& 15)))).1, (f_X1_combine u (op &&& 15) (((op >>> ((8 : Int32) &&& 31)) &&& 15)) (f_X1_variable u (((op >>> ((4 : Int32) &&& 31)) &&& 15)))).2) := (Z_exec u op).trans ((if_neg (by rw [hc]; decide)).trans ((if_neg (by rw [hc]; decide)).trans ((if_neg (by rw [hc]; decide)).trans ((if_neg (by rw [hc]; decide)).trans ((if_neg (by rw [hc]; decide)).trans ((if_neg (by rw [hc]; decide)).trans ((if_neg (by rw [hc]; decide)).trans ((if_neg (by rw [hc]; decide)).trans (if_pos (hc))))))))))
theorem XM_9 (m : MS) {op : Int32} (hc : op >>> ((12 : Int32) &&& 31) = 9) : stp m op = ((f_X7_compared m (((op >>> ((8 : Int32) &&& 31)) &&& 15)) (((op >>> ((4 : Int32) &&& 31)) &&& 15)) ((op &&& 15)) 0).1, (f_X7_compared m (((op >>> ((8 : Int32) &&& 31)) &&& 15)) (((op >>> ((4 : Int32) &&& 31)) &&& 15)) ((op &&& 15)) 0).2) := (Z_stp m op).trans ((if_neg (by rw [hc]; decide)).trans ((if_neg (by rw [hc]; decide)).trans ((if_neg (by rw [hc]; decide)).trans ((if_neg (by rw [hc]; decide)).trans ((if_neg (by rw [hc]; decide)).trans ((if_neg (by rw [hc]; decide)).trans ((if_neg (by rw [hc]; decide)).trans (if_pos (hc)))))))))
theorem XE_9 (u : BS) {op : Int32} (hc : op >>> ((12 : Int32) &&& 31) = 9) : f_X1_execute u op = (if (f_X1_variable u (((op >>> ((8 : Int32) &&& 31)) &&& 15))) = (f_X1_variable u (((op >>> ((4 : Int32) &&& 31)) &&& 15))) then ((f_X1_compare u op 1).1, (f_X1_compare u op 1).2) else ((f_X1_compare u op 0).1, (f_X1_compare u op 0).2)) := (Z_exec u op).trans ((if_neg (by rw [hc]; decide)).trans ((if_neg (by rw [hc]; decide)).trans ((if_neg (by rw [hc]; decide)).trans ((if_neg (by rw [hc]; decide)).trans ((if_neg (by rw [hc]; decide)).trans ((if_neg (by rw [hc]; decide)).trans ((if_neg (by rw [hc]; decide)).trans ((if_neg (by rw [hc]; decide)).trans ((if_neg (by rw [hc]; decide)).trans (if_pos (hc)))))))))))
theorem XM_10 (m : MS) {op : Int32} (hc : op >>> ((12 : Int32) &&& 31) = 10) : stp m op = (0, (f_X7_simple m op)) := (Z_stp m op).trans ((if_neg (by rw [hc]; decide)).trans ((if_neg (by rw [hc]; decide)).trans ((if_neg (by rw [hc]; decide)).trans ((if_neg (by rw [hc]; decide)).trans ((if_neg (by rw [hc]; decide)).trans ((if_neg (by rw [hc]; decide)).trans ((if_neg (by rw [hc]; decide)).trans ((if_neg (by rw [hc]; decide)).trans ((if_neg (by rw [hc]; decide)).trans ((if_neg (by rw [hc]; decide)).trans (if_neg (by rw [hc]; decide))))))))))))
theorem XE_10 (u : BS) {op : Int32} (hc : op >>> ((12 : Int32) &&& 31) = 10) : f_X1_execute u op = (0, (f_X1_putIndex u op)) := (Z_exec u op).trans ((if_neg (by rw [hc]; decide)).trans ((if_neg (by rw [hc]; decide)).trans ((if_neg (by rw [hc]; decide)).trans ((if_neg (by rw [hc]; decide)).trans ((if_neg (by rw [hc]; decide)).trans ((if_neg (by rw [hc]; decide)).trans ((if_neg (by rw [hc]; decide)).trans ((if_neg (by rw [hc]; decide)).trans ((if_neg (by rw [hc]; decide)).trans ((if_neg (by rw [hc]; decide)).trans (if_pos (hc))))))))))))
theorem XS_10 (m : MS) {op : Int32} (hc : op >>> ((12 : Int32) &&& 31) = 10) : f_X7_simple m op = (f_X7_goesOn (ms_v m (upd (mq_v m) 16 (op &&& 4095))) 0) := (Z_simple m op).trans ((if_neg (by rw [hc]; decide)).trans ((if_neg (by rw [hc]; decide)).trans (if_pos (hc))))
theorem XM_11 (m : MS) {op : Int32} (hc : op >>> ((12 : Int32) &&& 31) = 11) : stp m op = (0, (ms_v m (upd (mq_v m) 17 ((((op &&& 4095)) + (mq_v m 0)) &&& 4095)))) := (Z_stp m op).trans ((if_neg (by rw [hc]; decide)).trans ((if_neg (by rw [hc]; decide)).trans ((if_neg (by rw [hc]; decide)).trans ((if_neg (by rw [hc]; decide)).trans ((if_neg (by rw [hc]; decide)).trans ((if_neg (by rw [hc]; decide)).trans ((if_neg (by rw [hc]; decide)).trans ((if_neg (by rw [hc]; decide)).trans (if_pos (hc))))))))))
theorem XE_11 (u : BS) {op : Int32} (hc : op >>> ((12 : Int32) &&& 31) = 11) : f_X1_execute u op = (0, (f_X1_jump u ((op &&& 4095) + (f_X1_variable u 0)))) := (Z_exec u op).trans ((if_neg (by rw [hc]; decide)).trans ((if_neg (by rw [hc]; decide)).trans ((if_neg (by rw [hc]; decide)).trans ((if_neg (by rw [hc]; decide)).trans ((if_neg (by rw [hc]; decide)).trans ((if_neg (by rw [hc]; decide)).trans ((if_neg (by rw [hc]; decide)).trans ((if_neg (by rw [hc]; decide)).trans ((if_neg (by rw [hc]; decide)).trans ((if_neg (by rw [hc]; decide)).trans ((if_neg (by rw [hc]; decide)).trans (if_pos (hc)))))))))))))
theorem XM_12 (m : MS) {op : Int32} (hc : op >>> ((12 : Int32) &&& 31) = 12) : stp m op = (0, (f_X7_simple m op)) := (Z_stp m op).trans ((if_neg (by rw [hc]; decide)).trans ((if_neg (by rw [hc]; decide)).trans ((if_neg (by rw [hc]; decide)).trans ((if_neg (by rw [hc]; decide)).trans ((if_neg (by rw [hc]; decide)).trans ((if_neg (by rw [hc]; decide)).trans ((if_neg (by rw [hc]; decide)).trans ((if_neg (by rw [hc]; decide)).trans ((if_neg (by rw [hc]; decide)).trans ((if_neg (by rw [hc]; decide)).trans (if_neg (by rw [hc]; decide))))))))))))
theorem XE_12 (u : BS) {op : Int32} (hc : op >>> ((12 : Int32) &&& 31) = 12) : f_X1_execute u op = (0, (f_X1_putVariable (bs_random u ((((bq_random u) * 5) + 1) &&& 255)) (((op >>> ((8 : Int32) &&& 31)) &&& 15)) ((bq_random (bs_random u ((((bq_random u) * 5) + 1) &&& 255))) &&& ((op &&& 255))))) := (Z_exec u op).trans ((if_neg (by rw [hc]; decide)).trans ((if_neg (by rw [hc]; decide)).trans ((if_neg (by rw [hc]; decide)).trans ((if_neg (by rw [hc]; decide)).trans ((if_neg (by rw [hc]; decide)).trans ((if_neg (by rw [hc]; decide)).trans ((if_neg (by rw [hc]; decide)).trans ((if_neg (by rw [hc]; decide)).trans ((if_neg (by rw [hc]; decide)).trans ((if_neg (by rw [hc]; decide)).trans ((if_neg (by rw [hc]; decide)).trans ((if_neg (by rw [hc]; decide)).trans (if_pos (hc))))))))))))))
theorem XS_12 (m : MS) {op : Int32} (hc : op >>> ((12 : Int32) &&& 31) = 12) : f_X7_simple m op = (f_X7_goesOn (f_X7_random m (((op >>> ((8 : Int32) &&& 31)) &&& 15)) ((op &&& 255))).2 0) := (Z_simple m op).trans ((if_neg (by rw [hc]; decide)).trans ((if_neg (by rw [hc]; decide)).trans ((if_neg (by rw [hc]; decide)).trans (if_pos (hc)))))
theorem XM_13 (m : MS) {op : Int32} (hc : op >>> ((12 : Int32) &&& 31) = 13) : stp m op = (0, (f_X7_simple m op)) := (Z_stp m op).trans ((if_neg (by rw [hc]; decide)).trans ((if_neg (by rw [hc]; decide)).trans ((if_neg (by rw [hc]; decide)).trans ((if_neg (by rw [hc]; decide)).trans ((if_neg (by rw [hc]; decide)).trans ((if_neg (by rw [hc]; decide)).trans ((if_neg (by rw [hc]; decide)).trans ((if_neg (by rw [hc]; decide)).trans ((if_neg (by rw [hc]; decide)).trans ((if_neg (by rw [hc]; decide)).trans (if_neg (by rw [hc]; decide))))))))))))
theorem XE_13 (u : BS) {op : Int32} (hc : op >>> ((12 : Int32) &&& 31) = 13) : f_X1_execute u op = (0, (f_X1_draw u (f_X1_variable u (((op >>> ((8 : Int32) &&& 31)) &&& 15))) (f_X1_variable u (((op >>> ((4 : Int32) &&& 31)) &&& 15))) (op &&& 15))) := (Z_exec u op).trans ((if_neg (by rw [hc]; decide)).trans ((if_neg (by rw [hc]; decide)).trans ((if_neg (by rw [hc]; decide)).trans ((if_neg (by rw [hc]; decide)).trans ((if_neg (by rw [hc]; decide)).trans ((if_neg (by rw [hc]; decide)).trans ((if_neg (by rw [hc]; decide)).trans ((if_neg (by rw [hc]; decide)).trans ((if_neg (by rw [hc]; decide)).trans ((if_neg (by rw [hc]; decide)).trans ((if_neg (by rw [hc]; decide)).trans ((if_neg (by rw [hc]; decide)).trans ((if_neg (by rw [hc]; decide)).trans (if_pos (hc)))))))))))))))
theorem XS_13 (m : MS) {op : Int32} (hc : op >>> ((12 : Int32) &&& 31) = 13) : f_X7_simple m op = (f_X7_goesOn (f_X7_draw m (((op >>> ((8 : Int32) &&& 31)) &&& 15)) ((op >>> ((4 : Int32) &&& 31)) &&& 15) (op &&& 15)) 0) := (Z_simple m op).trans ((if_neg (by rw [hc]; decide)).trans ((if_neg (by rw [hc]; decide)).trans ((if_neg (by rw [hc]; decide)).trans (if_neg (by rw [hc]; decide)))))
theorem XM_14 (m : MS) {op : Int32} (hc : op >>> ((12 : Int32) &&& 31) = 14) : stp m op = ((f_X7_keyed m (((op >>> ((8 : Int32) &&& 31)) &&& 15)) ((op &&& 255))).1, (f_X7_keyed m (((op >>> ((8 : Int32) &&& 31)) &&& 15)) ((op &&& 255))).2) := (Z_stp m op).trans ((if_neg (by rw [hc]; decide)).trans ((if_neg (by rw [hc]; decide)).trans ((if_neg (by rw [hc]; decide)).trans ((if_neg (by rw [hc]; decide)).trans ((if_neg (by rw [hc]; decide)).trans ((if_neg (by rw [hc]; decide)).trans ((if_neg (by rw [hc]; decide)).trans ((if_neg (by rw [hc]; decide)).trans ((if_neg (by rw [hc]; decide)).trans (if_pos (hc)))))))))))
theorem XE_14 (u : BS) {op : Int32} (hc : op >>> ((12 : Int32) &&& 31) = 14) : f_X1_execute u op = ((f_X1_skipByKey u ((op &&& 255)) (f_X0_isDown u (f_X1_variable u (((op >>> ((8 : Int32) &&& 31)) &&& 15))))).1, (f_X1_skipByKey u ((op &&& 255)) (f_X0_isDown u (f_X1_variable u (((op >>> ((8 : Int32) &&& 31)) &&& 15))))).2) := (Z_exec u op).trans ((if_neg (by rw [hc]; decide)).trans ((if_neg (by rw [hc]; decide)).trans ((if_neg (by rw [hc]; decide)).trans ((if_neg (by rw [hc]; decide)).trans ((if_neg (by rw [hc]; decide)).trans ((if_neg (by rw [hc]; decide)).trans ((if_neg (by rw [hc]; decide)).trans ((if_neg (by rw [hc]; decide)).trans ((if_neg (by rw [hc]; decide)).trans ((if_neg (by rw [hc]; decide)).trans ((if_neg (by rw [hc]; decide)).trans ((if_neg (by rw [hc]; decide)).trans ((if_neg (by rw [hc]; decide)).trans ((if_neg (by rw [hc]; decide)).trans (if_pos (hc))))))))))))))))
theorem XM_15 (m : MS) {op : Int32} (hc : op >>> ((12 : Int32) &&& 31) = 15) : stp m op = ((f_X7_fifteen m (((op >>> ((8 : Int32) &&& 31)) &&& 15)) ((op &&& 255))).1, (f_X7_fifteen m (((op >>> ((8 : Int32) &&& 31)) &&& 15)) ((op &&& 255))).2) := (Z_stp m op).trans ((if_neg (by rw [hc]; decide)).trans ((if_neg (by rw [hc]; decide)).trans ((if_neg (by rw [hc]; decide)).trans ((if_neg (by rw [hc]; decide)).trans ((if_neg (by rw [hc]; decide)).trans ((if_neg (by rw [hc]; decide)).trans ((if_neg (by rw [hc]; decide)).trans ((if_neg (by rw [hc]; decide)).trans ((if_neg (by rw [hc]; decide)).trans ((if_neg (by rw [hc]; decide)).trans (if_pos (hc))))))))))))
theorem XE_15 (u : BS) {op : Int32} (hc : op >>> ((12 : Int32) &&& 31) = 15) : f_X1_execute u op = (if ((op &&& 255)) < 48 then ((f_X1_executeSystem u (((op >>> ((8 : Int32) &&& 31)) &&& 15)) ((op &&& 255))).1, (f_X1_executeSystem u (((op >>> ((8 : Int32) &&& 31)) &&& 15)) ((op &&& 255))).2) else ((f_X1_executeStore u (((op >>> ((8 : Int32) &&& 31)) &&& 15)) ((op &&& 255))).1, (f_X1_executeStore u (((op >>> ((8 : Int32) &&& 31)) &&& 15)) ((op &&& 255))).2)) := (Z_exec u op).trans ((if_neg (by rw [hc]; decide)).trans ((if_neg (by rw [hc]; decide)).trans ((if_neg (by rw [hc]; decide)).trans ((if_neg (by rw [hc]; decide)).trans ((if_neg (by rw [hc]; decide)).trans ((if_neg (by rw [hc]; decide)).trans ((if_neg (by rw [hc]; decide)).trans ((if_neg (by rw [hc]; decide)).trans ((if_neg (by rw [hc]; decide)).trans ((if_neg (by rw [hc]; decide)).trans ((if_neg (by rw [hc]; decide)).trans ((if_neg (by rw [hc]; decide)).trans ((if_neg (by rw [hc]; decide)).trans ((if_neg (by rw [hc]; decide)).trans (if_neg (by rw [hc]; decide))))))))))))))))
theorem EF_7 (m : MS) (x : Int32) : f_X7_fifteen m x 7 = (0, (f_X7_goesOn (ms_v m (upd (mq_v m) (x).toNatClampNeg (mq_v m 19))) 0)) := if_pos (by decide)
theorem EY_7 (u : BS) (x : Int32) : f_X1_executeSystem u x 7 = (0, (f_X1_putVariable u x (f_X5_delay u))) := if_pos (by decide)
theorem EF_10 (m : MS) (x : Int32) : f_X7_fifteen m x 10 = (if 0 ≤ ((f_X7_leastKey m)) then (0, (f_X7_goesOn (ms_v m (upd (mq_v m) (x).toNatClampNeg ((f_X7_leastKey m)))) 0)) else (3, m)) := (if_neg (by decide)).trans (if_pos (by decide))
theorem EY_10 (u : BS) (x : Int32) : f_X1_executeSystem u x 10 = ((f_X1_takeKey u x).1, (f_X1_takeKey u x).2) := (if_neg (by decide)).trans (if_pos (by decide))
theorem EF_21 (m : MS) (x : Int32) : f_X7_fifteen m x 21 = (0, (f_X7_goesOn (ms_v m (upd (mq_v m) 19 (mq_v m (x).toNatClampNeg))) 0)) := (if_neg (by decide)).trans ((if_neg (by decide)).trans (if_pos (by decide)))
theorem EY_21 (u : BS) (x : Int32) : f_X1_executeSystem u x 21 = (0, (f_X5_setDelay u (f_X1_variable u x))) := (if_neg (by decide)).trans ((if_neg (by decide)).trans (if_pos (by decide)))
theorem EF_24 (m : MS) (x : Int32) : f_X7_fifteen m x 24 = (0, (f_X7_goesOn (ms_v m (upd (mq_v m) 20 (mq_v m (x).toNatClampNeg))) 0)) := (if_neg (by decide)).trans ((if_neg (by decide)).trans ((if_neg (by decide)).trans (if_pos (by decide))))
theorem EY_24 (u : BS) (x : Int32) : f_X1_executeSystem u x 24 = (0, (f_X5_setTone u (f_X1_variable u x))) := (if_neg (by decide)).trans ((if_neg (by decide)).trans ((if_neg (by decide)).trans (if_pos (by decide))))
theorem EF_30 (m : MS) (x : Int32) : f_X7_fifteen m x 30 = (0, (f_X7_goesOn (ms_v m (upd (mq_v m) 16 (((mq_v m 16) + (mq_v m (x).toNatClampNeg)) &&& 4095))) 0)) := (if_neg (by decide)).trans ((if_neg (by decide)).trans ((if_neg (by decide)).trans ((if_neg (by decide)).trans (if_pos (by decide)))))
theorem EY_30 (u : BS) (x : Int32) : f_X1_executeSystem u x 30 = (0, (f_X1_putIndex u ((bq_index u) + (f_X1_variable u x)))) := (if_neg (by decide)).trans ((if_neg (by decide)).trans ((if_neg (by decide)).trans ((if_neg (by decide)).trans (if_pos (by decide)))))
theorem EF_41 (m : MS) (x : Int32) : f_X7_fifteen m x 41 = (0, (f_X7_goesOn (ms_v m (upd (mq_v m) 16 ((5 : Int32) * ((mq_v m (x).toNatClampNeg) &&& 15)))) 0)) := (if_neg (by decide)).trans ((if_neg (by decide)).trans ((if_neg (by decide)).trans ((if_neg (by decide)).trans ((if_neg (by decide)).trans (if_pos (by decide))))))
theorem EY_41 (u : BS) (x : Int32) : f_X1_executeSystem u x 41 = (0, (f_X1_putIndex u ((5 : Int32) * ((f_X1_variable u x) &&& 15)))) := (if_neg (by decide)).trans ((if_neg (by decide)).trans ((if_neg (by decide)).trans ((if_neg (by decide)).trans ((if_neg (by decide)).trans (if_pos (by decide))))))
theorem EF_51 (m : MS) (x : Int32) : f_X7_fifteen m x 51 = (0, (f_X7_goesOn (f_X7_store (f_X7_store (f_X7_store m (mq_v m 16) ((mq_v m (x).toNatClampNeg) / 100)) ((mq_v (f_X7_store m (mq_v m 16) ((mq_v m (x).toNatClampNeg) / 100)) 16) + 1) (((mq_v (f_X7_store m (mq_v m 16) ((mq_v m (x).toNatClampNeg) / 100)) (x).toNatClampNeg) / 10) - ((mq_v (f_X7_store m (mq_v m 16) ((mq_v m (x).toNatClampNeg) / 100)) (x).toNatClampNeg) / 10) / 10 * 10)) ((mq_v (f_X7_store (f_X7_store m (mq_v m 16) ((mq_v m (x).toNatClampNeg) / 100)) ((mq_v (f_X7_store m (mq_v m 16) ((mq_v m (x).toNatClampNeg) / 100)) 16) + 1) (((mq_v (f_X7_store m (mq_v m 16) ((mq_v m (x).toNatClampNeg) / 100)) (x).toNatClampNeg) / 10) - ((mq_v (f_X7_store m (mq_v m 16) ((mq_v m (x).toNatClampNeg) / 100)) (x).toNatClampNeg) / 10) / 10 * 10)) 16) + 2) ((mq_v (f_X7_store (f_X7_store m (mq_v m 16) ((mq_v m (x).toNatClampNeg) / 100)) ((mq_v (f_X7_store m (mq_v m 16) ((mq_v m (x).toNatClampNeg) / 100)) 16) + 1) (((mq_v (f_X7_store m (mq_v m 16) ((mq_v m (x).toNatClampNeg) / 100)) (x).toNatClampNeg) / 10) - ((mq_v (f_X7_store m (mq_v m 16) ((mq_v m (x).toNatClampNeg) / 100)) (x).toNatClampNeg) / 10) / 10 * 10)) (x).toNatClampNeg) - (mq_v (f_X7_store (f_X7_store m (mq_v m 16) ((mq_v m (x).toNatClampNeg) / 100)) ((mq_v (f_X7_store m (mq_v m 16) ((mq_v m (x).toNatClampNeg) / 100)) 16) + 1) (((mq_v (f_X7_store m (mq_v m 16) ((mq_v m (x).toNatClampNeg) / 100)) (x).toNatClampNeg) / 10) - ((mq_v (f_X7_store m (mq_v m 16) ((mq_v m (x).toNatClampNeg) / 100)) (x).toNatClampNeg) / 10) / 10 * 10)) (x).toNatClampNeg) / 10 * 10)) 0)) := (if_neg (by decide)).trans ((if_neg (by decide)).trans ((if_neg (by decide)).trans ((if_neg (by decide)).trans ((if_neg (by decide)).trans ((if_neg (by decide)).trans (if_pos (by decide)))))))
theorem EY_51 (u : BS) (x : Int32) : f_X1_executeStore u x 51 = (0, (f_X1_putDigits u (f_X1_variable u x))) := if_pos (by decide)
theorem EF_85 (m : MS) (x : Int32) : f_X7_fifteen m x 85 = (0, (f_X7_goesOn (f_X7_rows m x 1) 0)) := (if_neg (by decide)).trans ((if_neg (by decide)).trans ((if_neg (by decide)).trans ((if_neg (by decide)).trans ((if_neg (by decide)).trans ((if_neg (by decide)).trans ((if_neg (by decide)).trans (if_pos (by decide))))))))
theorem EY_85 (u : BS) (x : Int32) : f_X1_executeStore u x 85 = (0, (f_X1_saveVariables u x)) := (if_neg (by decide)).trans (if_pos (by decide))
theorem EF_101 (m : MS) (x : Int32) : f_X7_fifteen m x 101 = (0, (f_X7_goesOn (f_X7_rows m x 0) 0)) := (if_neg (by decide)).trans ((if_neg (by decide)).trans ((if_neg (by decide)).trans ((if_neg (by decide)).trans ((if_neg (by decide)).trans ((if_neg (by decide)).trans ((if_neg (by decide)).trans ((if_neg (by decide)).trans (if_pos (by decide)))))))))
theorem EY_101 (u : BS) (x : Int32) : f_X1_executeStore u x 101 = (0, (f_X1_loadVariables u x)) := (if_neg (by decide)).trans ((if_neg (by decide)).trans (if_pos (by decide)))
theorem up_eq {u V : BS} (e : bq_pc V = bq_pc u) : bs_pc V ((bq_pc u + 2) &&& 4095) = up V := by unfold up; rw [e]
theorem s_zero {u : BS} (th op : Int32) (h : Inv u) : LR th u (f_X1_clearOrLeave (up u) op) (f_X7_zero (aM th u) op) := by
  by_cases q : op = 224
  · obtain ⟨V, v1, v2, v3, v4, -, -⟩ := s_clear th ((bq_pc u + 2) &&& 4095) op 256 257 257 0 u (by omega) (by omega) (by omega) h
    refine LR0 (w := up V) ?_ ?_ (i_up v2)
    · refine (if_pos q).trans ?_
      show (0, f_X1_clear_L 257 (bs_pc u ((bq_pc u + 2) &&& 4095)) (nI 0)) = _
      rw [v4, up_eq v1]
    · refine (if_pos q).trans ?_
      rw [go0] at v3
      exact v3
  by_cases q2 : op = 238
  · obtain ⟨k, hk, e⟩ := r_depth h
    rcases Nat.eq_zero_or_pos k with rfl | hp
    · refine LRs ?_ ?_
      · have z : bq_depth (up u) ≤ 0 := by show bq_depth u ≤ 0; rw [e]; decide
        have l : f_X1_leave (up u) = (3, up u) := if_pos z
        refine (if_neg q).trans ((if_pos q2).trans ?_)
        rw [l]
      · exact (if_neg q).trans ((if_pos q2).trans (if_pos e))
    · obtain ⟨j, rfl⟩ : ∃ j, k = j + 1 := ⟨k - 1, by omega⟩
      have ep : bq_depth u - 1 = nI j := by rw [e, nI_pred]
      have z1 : ¬ bq_depth (up u) ≤ 0 := by show ¬ bq_depth u ≤ 0; rw [e]; exact nI_nle (by omega) (by omega)
      have z2 : bq_depth (up u) ≤ 12 := by show bq_depth u ≤ 12; rw [e]; exact nI_le (b := 12) (by omega) (by omega)
      have rs4 : rg 4096 (bq_stk u j) := r_stk h (by omega)
      have l : f_X1_leave (up u) = (0, bs_pc (bs_depth u (nI j)) (bq_stk u j)) := by
        refine (if_neg z1).trans ((if_pos z2).trans ?_)
        show (0, bs_pc (bs_depth u (bq_depth u - 1)) (bq_stk u (bq_depth u - 1).toNatClampNeg &&& 4095)) = _
        rw [ep, nI_clamp (by omega), id_4095 rs4]
      refine LR0 (w := bs_pc (bs_depth u (nI j)) (bq_stk u j)) ?_ ?_ (i_pc (i_depth h ⟨j, by omega, rfl⟩) rs4)
      · refine (if_neg q).trans ((if_pos q2).trans ?_)
        rw [l]
      · refine (if_neg q).trans ((if_pos q2).trans ((if_neg (by rw [m_depth, e]; exact nI_ne0 (by omega) (by omega))).trans ?_))
        rw [m_depth, ep]
        show ((0 : Int32), ms_v (ms_v (aM th u) (upd (mq_v (aM th u)) 18 (nI j))) (upd (mq_v (ms_v (aM th u) (upd (mq_v (aM th u)) 18 (nI j)))) 17 (mq_back (ms_v (aM th u) (upd (mq_v (aM th u)) 18 (nI j))) (mq_v (ms_v (aM th u) (upd (mq_v (aM th u)) 18 (nI j))) 18).toNatClampNeg))) = _
        rw [M_depth, m_depth, M_pc, m_back]
        show ((0 : Int32), aM th (bs_pc (bs_depth u (nI j)) (bq_stk u (nI j).toNatClampNeg))) = _
        rw [nI_clamp (by omega)]
  · exact LRu ((if_neg q).trans (if_neg q2)) ((if_neg q).trans (if_neg q2))
theorem o_clear : ∀ (d f1 j : Nat) (w : BS), j + d = 256 → d < f1 → ok_X1_clear_L f1 w (nI j)
  | 0, f1 + 1, j, w, hj, _ => by
    have e : 256 ≤ nI j := (nI_leI (a := 256) (b := j) (by omega) (by omega)).mpr (by omega)
    unfold ok_X1_clear_L; rw [if_pos e]; exact trivial
  | d + 1, f1 + 1, j, w, hj, h1 => by
    have e : ¬ 256 ≤ nI j := fun q => absurd ((nI_leI (a := 256) (b := j) (by omega) (by omega)).mp q) (by omega)
    unfold ok_X1_clear_L; rw [if_neg e]
    show ok_X1_clear_L f1 (f_X2_write w ((1792 : Int32) + nI j) 0) (nI j + Int32.ofInt 1)
    rw [nI_oi]; exact o_clear d f1 (j + 1) _ (by omega) (by omega)
theorem o_clearN (w : BS) (k : Nat) (hk : k = 257) (z : Int32) (hz : z = nI 0) : ok_X1_clear_L k w z := by
  subst hz; exact o_clear 256 k 0 w (by omega) (by omega)
set_option maxRecDepth 100000 in
theorem o_clear0 (w : BS) : ok_X1_clear w := by
  unfold ok_X1_clear
  exact o_clearN w 257 rfl 0 nI_0.symm
set_option maxRecDepth 100000 in
theorem o_zero {u : BS} (th op : Int32) (h : Inv u) : ok_X7_zero (aM th u) op ∧ ok_X1_clearOrLeave (up u) op := by
  obtain ⟨V, -, -, -, -, v5, v6⟩ := s_clear th ((bq_pc u + 2) &&& 4095) op 256 257 257 0 u (by omega) (by omega) (by omega) h
  obtain ⟨k, hk, e⟩ := r_depth h
  refine ⟨?_, ?_⟩
  · unfold ok_X7_zero
    by_cases q : op = 224
    · rw [if_pos q]; exact v5
    rw [if_neg q]
    by_cases q2 : op = 238
    · rw [if_pos q2]
      by_cases z : mq_v (aM th u) 18 = 0
      · rw [if_pos z]; exact trivial
      · rw [if_neg z]
        refine ⟨?_, trivial⟩
        have hp : 0 < k := Nat.pos_of_ne_zero (fun q => z (by rw [m_depth, e, q]; rfl))
        obtain ⟨j, rfl⟩ : ∃ j, k = j + 1 := ⟨k - 1, by omega⟩
        rw [m_depth, M_depth, m_depth]
        show vp_in (bq_depth u - 1) 12
        rw [e, nI_pred]; exact vp_in_nI (by omega) (by omega)
    · rw [if_neg q2]; exact trivial
  · unfold ok_X1_clearOrLeave
    by_cases q : op = 224
    · rw [if_pos q]
      exact ⟨o_clear0 (up u), trivial⟩
    rw [if_neg q]
    by_cases q2 : op = 238
    · rw [if_pos q2]
      refine ⟨?_, trivial⟩
      unfold ok_X1_leave
      by_cases z : bq_depth (up u) ≤ 0
      · rw [if_pos z]; exact trivial
      · rw [if_neg z]
        have hp : 0 < k := Nat.pos_of_ne_zero (fun q => z (by show bq_depth u ≤ 0; rw [e, q]; decide))
        obtain ⟨j, rfl⟩ : ∃ j, k = j + 1 := ⟨k - 1, by omega⟩
        split
        · refine ⟨?_, trivial⟩
          show vp_in (bq_depth u - 1) 12
          rw [e, nI_pred]; exact vp_in_nI (by omega) (by omega)
        · exact trivial
    · rw [if_neg q2]; exact trivial
theorem s_enter {u : BS} (th op : Int32) (h : Inv u) : LR th u (f_X1_enter (up u) op) (f_X7_call (aM th u) (op &&& 4095)) ∧ ok_X7_call (aM th u) (op &&& 4095) ∧ ok_X1_enter (up u) op := by
  obtain ⟨k, hk, e⟩ := r_depth h
  have z0 : ¬ bq_depth (up u) < 0 := by show ¬ bq_depth u < 0; rw [e]; exact nI_pos (by omega)
  by_cases q : k = 12
  · subst q
    have z1 : ¬ bq_depth (up u) < 12 := by show ¬ bq_depth u < 12; rw [e]; decide
    refine ⟨LRs ((if_neg z0).trans (if_neg z1)) (if_pos e), ?_, ?_⟩
    · unfold ok_X7_call; rw [if_pos (show mq_v (aM th u) 18 = 12 from e)]; exact trivial
    · unfold ok_X1_enter; rw [if_neg z0, if_neg z1]; exact trivial
  · have z1 : bq_depth (up u) < 12 := by show bq_depth u < 12; rw [e]; exact nI_lt (b := 12) (by omega) (by omega)
    have z2 : ¬ mq_v (aM th u) 18 = 12 := by rw [m_depth, e]; exact ne_k (j := 12) q (by omega) (by omega)
    have hin : vp_in (bq_depth u) 12 := by rw [e]; exact vp_in_nI (by omega) (by omega)
    refine ⟨LR0 ((if_neg z0).trans (if_pos z1)) ?_ ?_, ?_, ?_⟩
    · refine (if_neg z2).trans ?_
      show ((0 : Int32), ms_v (ms_v (aM th (bs_stk u (upd (bq_stk u) (bq_depth u).toNatClampNeg ((bq_pc u + 2) &&& 4095)))) (upd (mq_v (aM th (bs_stk u (upd (bq_stk u) (bq_depth u).toNatClampNeg ((bq_pc u + 2) &&& 4095))))) 18 (bq_depth u + 1))) (upd (mq_v (ms_v (aM th (bs_stk u (upd (bq_stk u) (bq_depth u).toNatClampNeg ((bq_pc u + 2) &&& 4095)))) (upd (mq_v (aM th (bs_stk u (upd (bq_stk u) (bq_depth u).toNatClampNeg ((bq_pc u + 2) &&& 4095))))) 18 (bq_depth u + 1)))) 17 (op &&& 4095))) = _
      rw [M_depth, M_pc]; rfl
    · refine i_jump (i_depth (i_stk (i_up h) (r_pc (i_up h))) ?_) _
      show rg 13 (bq_depth u + 1)
      rw [e]; exact ⟨k + 1, by omega, nI_1 k⟩
    · unfold ok_X7_call; rw [if_neg z2]; exact ⟨hin, trivial⟩
    · unfold ok_X1_enter; rw [if_neg z0, if_pos z1]; exact ⟨hin, trivial⟩
theorem s_down {u : BS} {x : Int32} (th : Int32) (h : Inv u) (hx : rg 16 x) : mq_down (aM th u) (mq_v (aM th u) x.toNatClampNeg &&& 15).toNatClampNeg = f_X0_isDown (up u) (f_X1_variable (up u) x) ∧ rg 2 (f_X0_isDown (up u) (f_X1_variable (up u) x)) := by
  have hk := r_keys h (ix_and 4 (f_X1_variable u x) (m := 15) (by decide) rfl)
  have e : f_X0_isDown (up u) (f_X1_variable (up u) x) = bq_keys u (f_X1_variable u x &&& 15).toNatClampNeg := by
    show vp_nar .boolean (bq_keys u (f_X1_variable u x &&& 15).toNatClampNeg) = _
    rw [ar_nar hk]
  rw [s_var th hx, e]
  exact ⟨rfl, hk⟩
theorem s_keyed {u : BS} {x : Int32} (th z : Int32) (h : Inv u) (hx : rg 16 x) : LR th u (f_X1_skipByKey (up u) z (f_X0_isDown (up u) (f_X1_variable (up u) x))) (f_X7_keyed (aM th u) x z) := by
  obtain ⟨d1, d2⟩ := s_down th h hx
  have d3 := ar_2 d2
  by_cases q : z = 158
  · have eR : f_X1_skipByKey (up u) z (f_X0_isDown (up u) (f_X1_variable (up u) x)) = f_X1_skipIf (up u) (f_X0_isDown (up u) (f_X1_variable (up u) x)) := if_pos q
    rw [eR]
    rcases d3 with e | e
    · rw [e]
      refine LR_s0 h ((if_pos q).trans (if_neg ?_))
      rw [d1, e]; decide
    · rw [e]
      refine LR_s1 h ((if_pos q).trans (if_pos ?_))
      rw [d1, e]
  by_cases q2 : z = 161
  · rcases d3 with e | e
    · have eR : f_X1_skipByKey (up u) z (f_X0_isDown (up u) (f_X1_variable (up u) x)) = f_X1_skipIf (up u) 1 := (if_neg q).trans ((if_pos q2).trans (if_pos e))
      rw [eR]
      refine LR_s1 h ((if_neg q).trans ((if_pos q2).trans (if_pos ?_)))
      rw [d1, e]
    · have eR : f_X1_skipByKey (up u) z (f_X0_isDown (up u) (f_X1_variable (up u) x)) = f_X1_skipIf (up u) 0 := (if_neg q).trans ((if_pos q2).trans (if_neg (by rw [e]; decide)))
      rw [eR]
      refine LR_s0 h ((if_neg q).trans ((if_pos q2).trans (if_neg ?_)))
      rw [d1, e]; decide
  · exact LRu ((if_neg q).trans (if_neg q2)) ((if_neg q).trans (if_neg q2))
theorem o_keyed {m : MS} {x : Int32} (z : Int32) (hx : rg 16 x) : ok_X7_keyed m x z := by
  have a1 := i22 hx
  unfold ok_X7_keyed
  simp only [a1, ite_self, and_self]
theorem o_compared {m : MS} {x y : Int32} (n p : Int32) (hx : rg 16 x) (hy : rg 16 y) : ok_X7_compared m x y n p := by
  have a1 := i22 hx
  have a2 := i22 hy
  unfold ok_X7_compared
  simp only [a1, a2, ite_self, and_self]
theorem s_comp5 {u : BS} {x y op : Int32} (th : Int32) (h : Inv u) (hx : rg 16 x) (hy : rg 16 y) (hc : op >>> ((12 : Int32) &&& 31) = 5) : LR th u (if f_X1_variable (up u) x = f_X1_variable (up u) y then f_X1_compare (up u) op 1 else f_X1_compare (up u) op 0) (f_X7_compared (aM th u) x y (op &&& 15) 1) := by
  by_cases q0 : op &&& 15 = 0
  · by_cases q : f_X1_variable u x = f_X1_variable u y
    · rw [if_pos (show f_X1_variable (up u) x = f_X1_variable (up u) y from q)]
      have e : f_X1_compare (up u) op 1 = f_X1_skipIf (up u) 1 := (if_pos q0).trans (if_pos hc)
      rw [e]
      exact LR_s1 h ((if_pos q0).trans ((if_pos (by rw [s_var th hx, s_var th hy, q])).trans (if_pos rfl)))
    · rw [if_neg (show ¬ f_X1_variable (up u) x = f_X1_variable (up u) y from q)]
      have e : f_X1_compare (up u) op 0 = f_X1_skipIf (up u) 0 := (if_pos q0).trans (if_pos hc)
      rw [e]
      exact LR_s0 h ((if_pos q0).trans ((if_neg (by rw [s_var th hx, s_var th hy]; exact q)).trans (if_neg (by decide))))
  · have e : ∀ z, f_X1_compare (up u) op z = (2, up u) := fun z => if_neg q0
    rw [e, e, ite_self]
    exact LRu rfl (if_neg q0)
theorem s_comp9 {u : BS} {x y op : Int32} (th : Int32) (h : Inv u) (hx : rg 16 x) (hy : rg 16 y) (hc : op >>> ((12 : Int32) &&& 31) = 9) : LR th u (if f_X1_variable (up u) x = f_X1_variable (up u) y then f_X1_compare (up u) op 1 else f_X1_compare (up u) op 0) (f_X7_compared (aM th u) x y (op &&& 15) 0) := by
  have hc5 : ¬ op >>> ((12 : Int32) &&& 31) = 5 := by rw [hc]; decide
  by_cases q0 : op &&& 15 = 0
  · by_cases q : f_X1_variable u x = f_X1_variable u y
    · rw [if_pos (show f_X1_variable (up u) x = f_X1_variable (up u) y from q)]
      have e : f_X1_compare (up u) op 1 = f_X1_skipIf (up u) 0 := (if_pos q0).trans ((if_neg hc5).trans (if_neg (by decide)))
      rw [e]
      exact LR_s0 h ((if_pos q0).trans ((if_pos (by rw [s_var th hx, s_var th hy, q])).trans (if_neg (by decide))))
    · rw [if_neg (show ¬ f_X1_variable (up u) x = f_X1_variable (up u) y from q)]
      have e : f_X1_compare (up u) op 0 = f_X1_skipIf (up u) 1 := (if_pos q0).trans ((if_neg hc5).trans (if_pos rfl))
      rw [e]
      exact LR_s1 h ((if_pos q0).trans ((if_neg (by rw [s_var th hx, s_var th hy]; exact q)).trans (if_pos rfl)))
  · have e : ∀ z, f_X1_compare (up u) op z = (2, up u) := fun z => if_neg q0
    rw [e, e, ite_self]
    exact LRu rfl (if_neg q0)
theorem s_takeKey {u : BS} {x : Int32} (th : Int32) (h : Inv u) (hx : rg 16 x) : LR th u (f_X1_takeKey (up u) x) (if 0 ≤ f_X7_leastKey (aM th u) then (0, f_X7_goesOn (ms_v (aM th u) (upd (mq_v (aM th u)) x.toNatClampNeg (f_X7_leastKey (aM th u)))) 0) else (3, aM th u)) := by
  have e1 : f_X7_leastKey (aM th u) = f_X0_least u := s_least th u 17 0
  have e2 : f_X0_least (up u) = f_X0_least u := up_least u _ 17 0
  have ek : f_X1_takeKey (up u) x = if 0 ≤ f_X0_least (up u) then (0, f_X1_putVariable (up u) x (f_X0_least (up u))) else (1, up u) := rfl
  obtain ⟨-, -, hv⟩ := o_least u th 16 17 0 (by omega) (by omega)
  rw [ek, e1, e2]
  rcases hv with q | q
  · have q' : f_X0_least u = -1 := q
    rw [q']
    exact LRw (if_neg (by decide)) (if_neg (by decide))
  · have q' : rg 16 (f_X0_least u) := q
    have q0 : 0 ≤ f_X0_least u := by
      obtain ⟨j, hj, e⟩ := q'
      rw [e]; exact nI_pos' (by omega)
    rw [if_pos q0, if_pos q0, s_putV th hx (rg_w q' (by decide)), go0]
    exact LR0 rfl rfl (i_putV (i_up h) _ _)
theorem w_up (u : BS) (a b : Int32) : f_X2_write (up u) a b = up (f_X2_write u a b) := rfl
theorem ix_up (u : BS) : bq_index (up u) = bq_index u := rfl
theorem ix_w (u : BS) (a b : Int32) : bq_index (f_X2_write u a b) = bq_index u := rfl
theorem v_w (u : BS) (a b r : Int32) : f_X1_variable (f_X2_write u a b) r = f_X1_variable u r := rfl
theorem dgU (u : BS) (V : Int32) : f_X1_putDigits (up u) V = up (f_X2_write (f_X2_write (f_X2_write u (bq_index u) (V / 100)) (bq_index u + 1) ((V / 10) - (V / 10) / 10 * 10)) (bq_index u + 2) (V - V / 10 * 10)) := by
  generalize e1 : V / 100 = A
  generalize e2 : (V / 10) - (V / 10) / 10 * 10 = B
  generalize e3 : V - V / 10 * 10 = C
  have e : f_X1_putDigits (up u) V = f_X2_write (f_X2_write (f_X2_write (up u) (bq_index (up u)) (V / 100)) (bq_index (f_X2_write (up u) (bq_index (up u)) (V / 100)) + 1) ((V / 10) - (V / 10) / 10 * 10)) (bq_index (f_X2_write (f_X2_write (up u) (bq_index (up u)) (V / 100)) (bq_index (f_X2_write (up u) (bq_index (up u)) (V / 100)) + 1) ((V / 10) - (V / 10) / 10 * 10)) + 2) (V - V / 10 * 10) := rfl
  rw [e, e1, e2, e3]
  rfl
theorem fv_7 {u : BS} {x : Int32} (th : Int32) (h : Inv u) (hx : rg 16 x) : LR th u (f_X1_executeSystem (up u) x 7) (f_X7_fifteen (aM th u) x 7) := by
  rw [EY_7, EF_7, m_delay, s_putV th hx (r_delay h), go0]
  exact LR0 rfl rfl (i_putV (i_up h) _ _)
theorem fv_10 {u : BS} {x : Int32} (th : Int32) (h : Inv u) (hx : rg 16 x) : LR th u (f_X1_executeSystem (up u) x 10) (f_X7_fifteen (aM th u) x 10) := by
  rw [EY_10, EF_10]
  exact s_takeKey th h hx
theorem fv_21 {u : BS} {x : Int32} (th : Int32) (h : Inv u) (hx : rg 16 x) : LR th u (f_X1_executeSystem (up u) x 21) (f_X7_fifteen (aM th u) x 21) := by
  rw [EY_21, EF_21, s_var th hx, M_delay, go0]
  refine LR0 rfl ?_ (i_delay (i_up h) (rg_255 _))
  show ((0 : Int32), aM th (up (bs_delay u (f_X1_variable u x)))) = (0, aM th (bs_delay (up u) (f_X1_variable u x &&& 255)))
  rw [id_255 (r_var h x)]; rfl
theorem fv_24 {u : BS} {x : Int32} (th : Int32) (h : Inv u) (hx : rg 16 x) : LR th u (f_X1_executeSystem (up u) x 24) (f_X7_fifteen (aM th u) x 24) := by
  rw [EY_24, EF_24, s_var th hx, M_tone, go0]
  refine LR0 rfl ?_ (i_tone (i_up h) (rg_255 _))
  show ((0 : Int32), aM th (up (bs_tone u (f_X1_variable u x)))) = (0, aM th (bs_tone (up u) (f_X1_variable u x &&& 255)))
  rw [id_255 (r_var h x)]; rfl
theorem fv_30 {u : BS} {x : Int32} (th : Int32) (h : Inv u) (hx : rg 16 x) : LR th u (f_X1_executeSystem (up u) x 30) (f_X7_fifteen (aM th u) x 30) := by
  rw [EY_30, EF_30, s_var th hx, m_index, M_index, go0, v_up, ix_up]
  exact LR0 rfl rfl (i_putI (i_up h) _)
theorem fv_41 {u : BS} {x : Int32} (th : Int32) (h : Inv u) (hx : rg 16 x) : LR th u (f_X1_executeSystem (up u) x 41) (f_X7_fifteen (aM th u) x 41) := by
  rw [EY_41, EF_41, s_var th hx, M_index, go0, v_up]
  refine LR0 rfl ?_ (i_putI (i_up h) _)
  have r5 : rg 4096 ((5 : Int32) * (f_X1_variable u x &&& 15)) := by
    obtain ⟨j, hj, e⟩ := rg_15 (f_X1_variable u x)
    rw [e, show (5 : Int32) * nI j = nI (5 * j) from pk_mul 5 j]; exact ⟨_, by omega, rfl⟩
  show ((0 : Int32), aM th (up (bs_index u ((5 : Int32) * (f_X1_variable u x &&& 15))))) = (0, aM th (bs_index (up u) (((5 : Int32) * (f_X1_variable u x &&& 15)) &&& 4095)))
  rw [id_4095 r5]; rfl
theorem fv_51 {u : BS} {x : Int32} (th : Int32) (h : Inv u) (hx : rg 16 x) : LR th u (f_X1_executeStore (up u) x 51) (f_X7_fifteen (aM th u) x 51) := by
  rw [EY_51, EF_51, v_up, dgU, s_var th hx, m_index, s_store, s_var th hx, m_index, s_store, s_var th hx, m_index, s_store, go0, v_w, v_w, v_w, ix_w, ix_w, ix_w]
  exact LR0 rfl rfl (i_up (i_write (i_write (i_write h _ _) _ _) _ _))
theorem fv_85 {u : BS} {x : Int32} (th : Int32) (h : Inv u) (hx : rg 16 x) : LR th u (f_X1_executeStore (up u) x 85) (f_X7_fifteen (aM th u) x 85) := by
  obtain ⟨xn, hxn, ex⟩ := hx
  obtain ⟨V, v1, v2, v3, v4, -, -⟩ := s_rows1 th ((bq_pc u + 2) &&& 4095) xn hxn (xn + 1) 17 17 0 u (by omega) (by omega) (by omega) h
  have w3 : f_X7_rows (aM th u) x 1 = aM th V := by unfold f_X7_rows; rw [ex, ← nI_0]; exact v3
  have w4 : f_X1_saveVariables (up u) x = up V := by unfold f_X1_saveVariables; rw [ex, ← up_eq v1, ← nI_0]; exact v4
  rw [EY_85, EF_85, w3, w4, go0]
  exact LR0 rfl rfl (i_up v2)
theorem fv_101 {u : BS} {x : Int32} (th : Int32) (h : Inv u) (hx : rg 16 x) : LR th u (f_X1_executeStore (up u) x 101) (f_X7_fifteen (aM th u) x 101) := by
  obtain ⟨xn, hxn, ex⟩ := hx
  obtain ⟨V, v1, v2, v3, v4, -, -⟩ := s_rows0 th ((bq_pc u + 2) &&& 4095) xn hxn (xn + 1) 17 17 0 u (by omega) (by omega) (by omega) h
  have w3 : f_X7_rows (aM th u) x 0 = aM th V := by unfold f_X7_rows; rw [ex]; exact v3
  have w4 : f_X1_loadVariables (up u) x = up V := by unfold f_X1_loadVariables; rw [ex, ← up_eq v1, ← nI_0]; exact v4
  rw [EY_101, EF_101, w3, w4, go0]
  exact LR0 rfl rfl (i_up v2)
theorem s_five {u : BS} {x : Int32} (th z : Int32) (h : Inv u) (hx : rg 16 x) : LR th u (if z < 48 then f_X1_executeSystem (up u) x z else f_X1_executeStore (up u) x z) (f_X7_fifteen (aM th u) x z) := by
  by_cases q7 : z = 7
  · subst q7
    rw [if_pos (by decide)]
    exact fv_7 th h hx
  by_cases q10 : z = 10
  · subst q10
    rw [if_pos (by decide)]
    exact fv_10 th h hx
  by_cases q21 : z = 21
  · subst q21
    rw [if_pos (by decide)]
    exact fv_21 th h hx
  by_cases q24 : z = 24
  · subst q24
    rw [if_pos (by decide)]
    exact fv_24 th h hx
  by_cases q30 : z = 30
  · subst q30
    rw [if_pos (by decide)]
    exact fv_30 th h hx
  by_cases q41 : z = 41
  · subst q41
    rw [if_pos (by decide)]
    exact fv_41 th h hx
  by_cases q51 : z = 51
  · subst q51
    rw [if_neg (by decide)]
    exact fv_51 th h hx
  by_cases q85 : z = 85
  · subst q85
    rw [if_neg (by decide)]
    exact fv_85 th h hx
  by_cases q101 : z = 101
  · subst q101
    rw [if_neg (by decide)]
    exact fv_101 th h hx
  have eM : f_X7_fifteen (aM th u) x z = (1, aM th u) := (if_neg q7).trans ((if_neg q10).trans ((if_neg q21).trans ((if_neg q24).trans ((if_neg q30).trans ((if_neg q41).trans ((if_neg q51).trans ((if_neg q85).trans (if_neg q101))))))))
  have e1 : f_X1_executeSystem (up u) x z = (2, up u) := (if_neg q7).trans ((if_neg q10).trans ((if_neg q21).trans ((if_neg q24).trans ((if_neg q30).trans (if_neg q41)))))
  have e2 : f_X1_executeStore (up u) x z = (2, up u) := (if_neg q51).trans ((if_neg q85).trans (if_neg q101))
  rw [e1, e2, ite_self, eM]
  exact LRu rfl rfl
theorem o_five {u : BS} {x : Int32} (th z : Int32) (h : Inv u) (hx : rg 16 x) : ok_X7_fifteen (aM th u) x z ∧ ok_X1_executeSystem (up u) x z ∧ ok_X1_executeStore (up u) x z := by
  obtain ⟨xn, hxn, ex⟩ := hx
  have a1 := i22 ⟨xn, hxn, ex⟩
  obtain ⟨-, -, -, -, -, b1, b2⟩ := s_rows1 th ((bq_pc u + 2) &&& 4095) xn hxn (xn + 1) 17 17 0 u (by omega) (by omega) (by omega) h
  obtain ⟨-, -, -, -, -, c1, c2⟩ := s_rows0 th ((bq_pc u + 2) &&& 4095) xn hxn (xn + 1) 17 17 0 u (by omega) (by omega) (by omega) h
  obtain ⟨d1, d2, -⟩ := o_least u th 16 17 0 (by omega) (by omega)
  obtain ⟨d3, -, -⟩ := o_least (up u) th 16 17 0 (by omega) (by omega)
  have a2 : ok_X7_rows (aM th u) x 1 := by rw [ex]; exact b1
  have a3 : ok_X7_rows (aM th u) x 0 := by rw [ex]; exact c1
  have a4 : ok_X7_leastKey (aM th u) := d2
  have a5 : ok_X0_least (up u) := d3
  have a6 : ok_X1_saveVariables (up u) x := by rw [ex]; exact b2
  have a7 : ok_X1_loadVariables (up u) x := by rw [ex]; exact c2
  refine ⟨?_, ?_, ?_⟩
  · unfold ok_X7_fifteen
    simp only [a1, a2, a3, a4, ite_self, and_self]
  · unfold ok_X1_executeSystem ok_X1_takeKey
    simp only [a5, ite_self, and_self]
  · unfold ok_X1_executeStore
    simp only [a6, a7, ite_self, and_self]
theorem s_exec {u : BS} {op : Int32} (th : Int32) (h : Inv u) (ho : rg 65536 op) : LR th u (f_X1_execute (up u) op) (stp (aM th u) op) := by
  have hx : rg 16 ((op >>> ((8 : Int32) &&& 31)) &&& 15) := rg_15 _
  have hy : rg 16 ((op >>> ((4 : Int32) &&& 31)) &&& 15) := rg_15 _
  have hn : rg 16 (op &&& 15) := rg_15 _
  have hk : rg 256 (op &&& 255) := rg_255 _
  have hc16 : rg 16 (op >>> ((12 : Int32) &&& 31)) := by
    obtain ⟨k, hk, e⟩ := ho
    rw [e, pk_shrN (by omega) _ 12 rfl]; exact ⟨_, by omega, rfl⟩
  refine nib hc16 (P := fun c => op >>> ((12 : Int32) &&& 31) = c → LR th u (f_X1_execute (up u) op) (stp (aM th u) op)) ?_ ?_ ?_ ?_ ?_ ?_ ?_ ?_ ?_ ?_ ?_ ?_ ?_ ?_ ?_ ?_ rfl
  · intro hc; rw [XE_0 _ hc, XM_0 _ hc]; exact s_zero th op h
  · intro hc; rw [XE_1 _ hc, XM_1 _ hc, M_pc]; exact LR0 rfl rfl (i_jump (i_up h) _)
  · intro hc; rw [XE_2 _ hc, XM_2 _ hc]; exact (s_enter th op h).1
  · intro hc; rw [XE_3 _ hc, XM_3 _ hc, s_var th hx, v_up]
    by_cases q : f_X1_variable u ((op >>> ((8 : Int32) &&& 31)) &&& 15) = op &&& 255
    · rw [if_pos q, if_pos q]; exact LR_s1 h rfl
    · rw [if_neg q, if_neg q]; exact LR_s0 h rfl
  · intro hc; rw [XE_4 _ hc, XM_4 _ hc, s_var th hx, v_up]
    by_cases q : f_X1_variable u ((op >>> ((8 : Int32) &&& 31)) &&& 15) = op &&& 255
    · rw [if_pos q, if_pos q]; exact LR_s0 h rfl
    · rw [if_neg q, if_neg q]; exact LR_s1 h rfl
  · intro hc; rw [XE_5 _ hc, XM_5 _ hc]; exact s_comp5 th h hx hy hc
  · intro hc; rw [XE_6 _ hc, XM_6 _ hc, XS_6 _ hc, s_putV th hx hk, go0]; exact LR0 rfl rfl (i_putV (i_up h) _ _)
  · intro hc; rw [XE_7 _ hc, XM_7 _ hc, XS_7 _ hc, s_var th hx, s_putV2 th hx, go0]; exact LR0 rfl rfl (i_putV (i_up h) _ _)
  · intro hc; rw [XE_8 _ hc, XM_8 _ hc]; exact s_eight th h hx hy hn
  · intro hc; rw [XE_9 _ hc, XM_9 _ hc]; exact s_comp9 th h hx hy hc
  · intro hc; rw [XE_10 _ hc, XM_10 _ hc, XS_10 _ hc, M_index, go0]; exact LR0 rfl rfl (i_putI (i_up h) _)
  · intro hc; rw [XE_11 _ hc, XM_11 _ hc, M_pc]
    refine LR0 rfl ?_ (i_jump (i_up h) _)
    rw [m_vars (show 0 < 16 by decide)]; rfl
  · intro hc
    have er : f_X7_random (aM th u) ((op >>> ((8 : Int32) &&& 31)) &&& 15) (op &&& 255) = (0, aM th (f_X1_putVariable (bs_random u (((bq_random u) * 5 + 1) &&& 255)) ((op >>> ((8 : Int32) &&& 31)) &&& 15) (((((bq_random u) * 5 + 1) &&& 255)) &&& (op &&& 255)))) := by
      unfold f_X7_random
      simp only [m_random, M_random]
      rw [Int32.mul_comm (5 : Int32), s_putV th hx (ar_or8 (show rg 256 (bq_random (bs_random u ((bq_random u * 5 + 1) &&& 255))) from rg_255 _) hk).2.1]; rfl
    rw [XE_12 _ hc, XM_12 _ hc, XS_12 _ hc, er]
    refine LR0 rfl ?_ (i_putV (i_random (i_up h) (rg_255 _)) _ _)
    show ((0 : Int32), f_X7_goesOn (aM th (f_X1_putVariable (bs_random u (((bq_random u) * 5 + 1) &&& 255)) ((op >>> ((8 : Int32) &&& 31)) &&& 15) (((((bq_random u) * 5 + 1) &&& 255)) &&& (op &&& 255)))) 0) = _
    rw [go0]; rfl
  · intro hc
    obtain ⟨V, v1, v2, v3, v4, -, -⟩ := s_draw th h hx hy hn
    rw [XE_13 _ hc, XM_13 _ hc, XS_13 _ hc, v3, v4, go0]
    exact LR0 rfl rfl (i_up v2)
  · intro hc; rw [XE_14 _ hc, XM_14 _ hc]; exact s_keyed th _ h hx
  · intro hc; rw [XE_15 _ hc, XM_15 _ hc]; exact s_five th _ h hx
theorem o_exec {u : BS} {op : Int32} (th : Int32) (h : Inv u) : ok_X1_execute (up u) op := by
  have hx : rg 16 ((op >>> ((8 : Int32) &&& 31)) &&& 15) := rg_15 _
  have hy : rg 16 ((op >>> ((4 : Int32) &&& 31)) &&& 15) := rg_15 _
  have hn : rg 16 (op &&& 15) := rg_15 _
  obtain ⟨-, -, -, -, -, -, a1⟩ := s_draw th h hx hy hn
  have a2 := (o_zero th op h).2
  have a3 := (s_enter th op h).2.2
  have a4 := (o_five th (op &&& 255) h hx).2.1
  have a5 := (o_five th (op &&& 255) h hx).2.2
  unfold ok_X1_execute
  simp only [a1, a2, a3, a4, a5, ite_self, and_self]
theorem o_simple {u : BS} {op : Int32} (th : Int32) (h : Inv u) : ok_X7_simple (aM th u) op := by
  have hx : rg 16 ((op >>> ((8 : Int32) &&& 31)) &&& 15) := rg_15 _
  have hy : rg 16 ((op >>> ((4 : Int32) &&& 31)) &&& 15) := rg_15 _
  have hn : rg 16 (op &&& 15) := rg_15 _
  obtain ⟨-, -, -, -, -, a1, -⟩ := s_draw th h hx hy hn
  have a2 := i22 hx
  have a3 : ok_X7_random (aM th u) ((op >>> ((8 : Int32) &&& 31)) &&& 15) (op &&& 255) := ⟨a2, trivial⟩
  unfold ok_X7_simple
  simp only [a1, a2, a3, ite_self, and_self]
theorem o_step {u : BS} (th : Int32) (h : Inv u) : ok_X7_step (aM th u) := by
  have a1 : ∀ z, ok_X7_zero (aM th u) z := fun z => (o_zero th z h).1
  have a2 : ∀ z, ok_X7_call (aM th u) (z &&& 4095) := fun z => (s_enter th z h).2.1
  have a3 : ∀ z, vp_in (z &&& 15) 22 := fun z => i22 (rg_15 z)
  have a4 : ∀ x y n p, ok_X7_compared (aM th u) (x &&& 15) (y &&& 15) n p := fun x y n p => o_compared n p (rg_15 x) (rg_15 y)
  have a5 : ∀ x y n, ok_X7_eight (aM th u) (x &&& 15) (y &&& 15) n := fun x y n => o_eight (rg_15 x) (rg_15 y)
  have a6 : ∀ x z, ok_X7_keyed (aM th u) (x &&& 15) z := fun x z => o_keyed z (rg_15 x)
  have a7 : ∀ x z, ok_X7_fifteen (aM th u) (x &&& 15) z := fun x z => (o_five th z h (rg_15 x)).1
  have a8 : ∀ z, ok_X7_simple (aM th u) z := fun z => o_simple th h
  unfold ok_X7_step
  simp only [a1, a2, a3, a4, a5, a6, a7, a8, ite_self, and_self]
/-- a step: outcomes and states -/
def SR (th : Int32) (u : BS) (S : Int32 × BS) (M : Int32 × MS) : Prop := (S.1 = 0 ∧ M = (0, aM th S.2) ∧ Inv S.2) ∨ (S = (1, u) ∧ M = (3, aM th u)) ∨ (S = (2, u) ∧ M = (1, aM th u)) ∨ (S = (3, u) ∧ M = (2, aM th u))
theorem s_step {u : BS} (th : Int32) (h : Inv u) : SR th u (f_X1_step u) (f_X7_step (aM th u)) ∧ ok_X1_step u := by
  obtain ⟨p1, p2, p3⟩ := ar_pair (r_read h (bq_pc u)) (r_read h (bq_pc u + 1))
  have eM : f_X7_step (aM th u) = stp (aM th u) (f_X2_pair u (bq_pc u)) := by
    rw [step_eq, s_byteAt, s_byteAt, m_pc, p1]; rfl
  have eS : f_X1_step u = if (f_X1_execute (up u) (f_X2_pair u (bq_pc u))).1 = 0 then ((f_X1_execute (up u) (f_X2_pair u (bq_pc u))).1, (f_X1_execute (up u) (f_X2_pair u (bq_pc u))).2) else ((f_X1_execute (up u) (f_X2_pair u (bq_pc u))).1, bs_pc (f_X1_execute (up u) (f_X2_pair u (bq_pc u))).2 (bq_pc u)) := rfl
  have hL := s_exec th h (show rg 65536 (f_X2_pair u (bq_pc u)) from p3)
  have hO := o_exec (op := f_X2_pair u (bq_pc u)) th h
  refine ⟨?_, ⟨hO, by
    show (if (f_X1_execute (up u) (f_X2_pair u (bq_pc u))).1 = 0 then True else True)
    rw [ite_self]; exact trivial⟩⟩
  rw [eM, eS]
  rcases hL with ⟨a, b, c⟩ | ⟨a, b⟩ | ⟨a, b⟩ | ⟨a, b⟩
  · rw [if_pos a]
    exact Or.inl ⟨a, b, c⟩
  · rw [a, if_neg (show ¬ ((1 : Int32), up u).1 = 0 from (by decide : ¬ (1 : Int32) = 0))]
    exact Or.inr (Or.inl ⟨rfl, b⟩)
  · rw [a, if_neg (show ¬ ((2 : Int32), up u).1 = 0 from (by decide : ¬ (2 : Int32) = 0))]
    exact Or.inr (Or.inr (Or.inl ⟨rfl, b⟩))
  · rw [a, if_neg (show ¬ ((3 : Int32), up u).1 = 0 from (by decide : ¬ (3 : Int32) = 0))]
    exact Or.inr (Or.inr (Or.inr ⟨rfl, b⟩))
/-- what the loop of chip owes -/
def CR (u : BS) (R : Option String × Int32 × BS) (M : Int32 × MS) : Prop := (∃ b, M = (b, aM (kc R.1) R.2.2) ∧ (R.1 = none → R.2.1 = b)) ∧ Inv R.2.2 ∧ ∀ E, R.1 = some E → E = x_IAE ∨ E = x_UOE ∨ E = x_ISE
theorem s_chipL (n : Nat) (hn : n ≤ 200) : ∀ (fuel : Nat) (u : BS) (j : Nat), Inv u → n - j < fuel → j ≤ n → ok_X6_chip_L fuel u (nI n) (nI j) ∧ ok_X7_chip_L fuel (aM 0 u) (nI n) (nI j) ∧ CR u (f_X6_chip_L fuel u (nI n) (nI j)) (f_X7_chip_L fuel (aM 0 u) (nI n) (nI j))
  | 0, _, _, _, hf, _ => absurd hf (by omega)
  | fuel + 1, u, j, h, hf, hj => by
    by_cases e : n ≤ j
    · have e1 : nI n ≤ nI j := nI_le e (by omega)
      have q6 : f_X6_chip_L (fuel + 1) u (nI n) (nI j) = (none, nI n, u) := if_pos e1
      have q7 : f_X7_chip_L (fuel + 1) (aM 0 u) (nI n) (nI j) = (nI n, aM 0 u) := if_pos e1
      rw [q6, q7]
      refine ⟨?_, ?_, ⟨nI n, rfl, fun _ => rfl⟩, h, fun E z => by cases z⟩
      · unfold ok_X6_chip_L; rw [if_pos e1]; exact trivial
      · unfold ok_X7_chip_L; rw [if_pos e1]; exact trivial
    · have e1 : ¬ nI n ≤ nI j := nI_ge (by omega) (by omega)
      obtain ⟨hs, ho⟩ := s_step 0 h
      have ho7 := o_step 0 h
      have w6 : f_X6_chip_L (fuel + 1) u (nI n) (nI j) = if (f_X1_step u).1 = 1 then (none, nI j, (f_X1_step u).2) else if (f_X1_step u).1 = 2 then (some x_UOE, 0, (f_X1_step u).2) else if (f_X1_step u).1 = 3 then (some x_ISE, 0, (f_X1_step u).2) else f_X6_chip_L fuel (f_X1_step u).2 (nI n) (nI j + Int32.ofInt 1) := if_neg e1
      have w7 : f_X7_chip_L (fuel + 1) (aM 0 u) (nI n) (nI j) = (fun r : Int32 × MS => if r.1 = 3 then (nI j, r.2) else if r.1 = 0 then (if (f_X7_fails r.2 0 3).1 = 0 then f_X7_chip_L fuel (f_X7_fails r.2 0 3).2 (nI n) (nI j + Int32.ofInt 1) else (0, (f_X7_fails r.2 0 3).2)) else if r.1 = 1 then (if (f_X7_fails r.2 1 2).1 = 0 then f_X7_chip_L fuel (f_X7_fails r.2 1 2).2 (nI n) (nI j + Int32.ofInt 1) else (0, (f_X7_fails r.2 1 2).2)) else (if (f_X7_fails r.2 1 3).1 = 0 then f_X7_chip_L fuel (f_X7_fails r.2 1 3).2 (nI n) (nI j + Int32.ofInt 1) else (0, (f_X7_fails r.2 1 3).2))) (f_X7_step (aM 0 u)) := if_neg e1
      have k6 : ok_X6_chip_L (fuel + 1) u (nI n) (nI j) = (ok_X1_step u ∧ if (f_X1_step u).1 = 1 then True else if (f_X1_step u).1 = 2 then True else if (f_X1_step u).1 = 3 then True else ok_X6_chip_L fuel (f_X1_step u).2 (nI n) (nI j + Int32.ofInt 1)) := if_neg e1
      have k7 : ok_X7_chip_L (fuel + 1) (aM 0 u) (nI n) (nI j) = (ok_X7_step (aM 0 u) ∧ (fun r : Int32 × MS => if r.1 = 3 then True else if r.1 = 0 then (if (f_X7_fails r.2 0 3).1 = 0 then ok_X7_chip_L fuel (f_X7_fails r.2 0 3).2 (nI n) (nI j + Int32.ofInt 1) else True) else if r.1 = 1 then (if (f_X7_fails r.2 1 2).1 = 0 then ok_X7_chip_L fuel (f_X7_fails r.2 1 2).2 (nI n) (nI j + Int32.ofInt 1) else True) else (if (f_X7_fails r.2 1 3).1 = 0 then ok_X7_chip_L fuel (f_X7_fails r.2 1 3).2 (nI n) (nI j + Int32.ofInt 1) else True)) (f_X7_step (aM 0 u))) := if_neg e1
      rw [nI_oi] at w6 w7 k6 k7
      rcases hs with ⟨a, b, c⟩ | ⟨a, b⟩ | ⟨a, b⟩ | ⟨a, b⟩
      · obtain ⟨y1, y2, y3⟩ := s_chipL n hn fuel (f_X1_step u).2 (j + 1) c (by omega) (by omega)
        have n1 : ¬ (f_X1_step u).1 = 1 := by rw [a]; decide
        have n2 : ¬ (f_X1_step u).1 = 2 := by rw [a]; decide
        have n3 : ¬ (f_X1_step u).1 = 3 := by rw [a]; decide
        have q6 : f_X6_chip_L (fuel + 1) u (nI n) (nI j) = f_X6_chip_L fuel (f_X1_step u).2 (nI n) (nI (j + 1)) := by rw [w6, if_neg n1, if_neg n2, if_neg n3]
        have q7 : f_X7_chip_L (fuel + 1) (aM 0 u) (nI n) (nI j) = f_X7_chip_L fuel (aM 0 (f_X1_step u).2) (nI n) (nI (j + 1)) := by
          rw [w7, b]
          exact (if_neg (show ¬ (0 : Int32) = 3 by decide)).trans ((if_pos rfl).trans (if_pos rfl))
        have g6 : ok_X6_chip_L (fuel + 1) u (nI n) (nI j) := by rw [k6, if_neg n1, if_neg n2, if_neg n3]; exact ⟨ho, y1⟩
        have g7 : ok_X7_chip_L (fuel + 1) (aM 0 u) (nI n) (nI j) := by
          rw [k7, b]
          refine ⟨ho7, ?_⟩
          show (if (0 : Int32) = 3 then True else if (0 : Int32) = 0 then (if (f_X7_fails (aM 0 (f_X1_step u).2) 0 3).1 = 0 then ok_X7_chip_L fuel (f_X7_fails (aM 0 (f_X1_step u).2) 0 3).2 (nI n) (nI (j + 1)) else True) else _)
          rw [if_neg (by decide), if_pos rfl, if_pos (zf0 _ _)]; exact y2
        refine ⟨g6, g7, ?_⟩
        rw [q6, q7]; exact y3
      · have q6 : f_X6_chip_L (fuel + 1) u (nI n) (nI j) = (none, nI j, u) := by rw [w6, a]; exact if_pos rfl
        have q7 : f_X7_chip_L (fuel + 1) (aM 0 u) (nI n) (nI j) = (nI j, aM 0 u) := by rw [w7, b]; exact if_pos rfl
        rw [q6, q7, k6, k7, a, b]
        exact ⟨⟨ho, trivial⟩, ⟨ho7, trivial⟩, ⟨nI j, rfl, fun _ => rfl⟩, h, fun E z => by cases z⟩
      · have q6 : f_X6_chip_L (fuel + 1) u (nI n) (nI j) = (some x_UOE, 0, u) := by rw [w6, a]; exact (if_neg (show ¬ (2 : Int32) = 1 by decide)).trans (if_pos rfl)
        have q7 : f_X7_chip_L (fuel + 1) (aM 0 u) (nI n) (nI j) = (0, aM 2 u) := by rw [w7, b]; exact (if_neg (show ¬ (1 : Int32) = 3 by decide)).trans ((if_neg (show ¬ (1 : Int32) = 0 by decide)).trans ((if_pos rfl).trans (if_neg (nf1 _ _))))
        rw [q6, q7, k6, k7, a, b]
        refine ⟨⟨ho, trivial⟩, ⟨ho7, trivial⟩, ⟨0, ?_, fun z => by cases z⟩, h, fun E z => Or.inr (Or.inl (som z))⟩
        show ((0 : Int32), aM 2 u) = (0, aM (kc (some x_UOE)) u)
        rw [kc_UOE]
      · have q6 : f_X6_chip_L (fuel + 1) u (nI n) (nI j) = (some x_ISE, 0, u) := by rw [w6, a]; exact (if_neg (show ¬ (3 : Int32) = 1 by decide)).trans ((if_neg (show ¬ (3 : Int32) = 2 by decide)).trans (if_pos rfl))
        have q7 : f_X7_chip_L (fuel + 1) (aM 0 u) (nI n) (nI j) = (0, aM 3 u) := by rw [w7, b]; exact (if_neg (show ¬ (2 : Int32) = 3 by decide)).trans ((if_neg (show ¬ (2 : Int32) = 0 by decide)).trans ((if_neg (show ¬ (2 : Int32) = 1 by decide)).trans (if_neg (nf1 _ _))))
        rw [q6, q7, k6, k7, a, b]
        refine ⟨⟨ho, trivial⟩, ⟨ho7, trivial⟩, ⟨0, ?_, fun z => by cases z⟩, h, fun E z => Or.inr (Or.inr (som z))⟩
        show ((0 : Int32), aM 3 u) = (0, aM (kc (some x_ISE)) u)
        rw [kc_ISE]
theorem sim1_chip {u : BS} (h : Inv u) (th a : Int32) : ok_X6_chip u a ∧ ok_X7_chip (aM th u) a ∧ (∃ b, f_X7_chip (aM th u) a = (b, aM (kc (f_X6_chip u a).1) (f_X6_chip u a).2.2) ∧ ((f_X6_chip u a).1 = none → (f_X6_chip u a).2.1 = b)) ∧ Inv (f_X6_chip u a).2.2 ∧ ∀ E, (f_X6_chip u a).1 = some E → E = x_IAE ∨ E = x_UOE ∨ E = x_ISE := by
  by_cases h1 : a < 1
  · have F : f_X6_chip u a = (some x_IAE, 0, u) := if_pos h1
    have M : f_X7_chip (aM th u) a = (0, aM 1 u) := (if_pos h1).trans (if_neg (nf1 _ _))
    rw [F, M]
    refine ⟨?_, ?_, ⟨0, by rw [kc_IAE], fun e => by cases e⟩, h, fun E e => Or.inl (som e)⟩
    · unfold ok_X6_chip; rw [if_pos h1]; exact trivial
    · unfold ok_X7_chip; rw [if_pos h1]; exact trivial
  by_cases h2 : a ≤ 200
  · have h0 : ¬ a < 0 := by
      rw [Int32.lt_iff_toInt_lt, show (1 : Int32).toInt = 1 from rfl] at h1
      rw [Int32.lt_iff_toInt_lt, show (0 : Int32).toInt = 0 from rfl]; omega
    obtain ⟨n, hn, rfl⟩ := nI_of2 (M := 200) (n := 200) rfl h0 h2
    have F : f_X6_chip u (nI n) = f_X6_chip_L 201 u (nI n) (nI 0) := (if_neg h1).trans (if_pos h2)
    have M : f_X7_chip (aM th u) (nI n) = f_X7_chip_L 201 (aM 0 u) (nI n) (nI 0) := (if_neg h1).trans ((if_pos h2).trans (if_pos (zf0 _ _)))
    obtain ⟨y1, y2, y3, y4, y5⟩ := s_chipL n hn 201 u 0 h (by omega) (by omega)
    rw [F, M]
    refine ⟨?_, ?_, y3, y4, y5⟩
    · unfold ok_X6_chip; rw [if_neg h1, if_pos h2]; exact y1
    · unfold ok_X7_chip; rw [if_neg h1, if_pos h2]
      show (if (f_X7_fails (aM th u) 0 1).1 = 0 then ok_X7_chip_L 201 (f_X7_fails (aM th u) 0 1).2 (nI n) 0 else True)
      rw [if_pos (zf0 _ _)]; exact y2
  · have F : f_X6_chip u a = (some x_IAE, 0, u) := (if_neg h1).trans (if_neg h2)
    have M : f_X7_chip (aM th u) a = (0, aM 1 u) := (if_neg h1).trans ((if_neg h2).trans (if_neg (nf1 _ _)))
    rw [F, M]
    refine ⟨?_, ?_, ⟨0, by rw [kc_IAE], fun e => by cases e⟩, h, fun E e => Or.inl (som e)⟩
    · unfold ok_X6_chip; rw [if_neg h1, if_neg h2]; exact trivial
    · unfold ok_X7_chip; rw [if_neg h1, if_neg h2]; exact trivial
