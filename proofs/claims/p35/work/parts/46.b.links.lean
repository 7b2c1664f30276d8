
theorem w_ac2 : Cond.arrayClass .boolean ∈ TB := TB_t 1004 (by decide +kernel) rfl
theorem wlX10_1 : Cond.methodLink RX10 1 objectInit ∈ TB := TB_t 956 (by decide +kernel) rfl
