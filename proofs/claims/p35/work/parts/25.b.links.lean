
theorem mlX1_19 : MLIN RX1 19 yX2_init cX2_init 1 0 := ⟨by decide, TB_t 47 (by decide +kernel) rfl, TB_t 4 (by decide +kernel) rfl, ⟨by decide, by decide, by decide +kernel⟩, TB_t 46 (by decide +kernel) rfl, rfl⟩
theorem mlX1_40 : MLIN RX1 40 yX6_init cX6_init 1 0 := ⟨by decide, TB_t 90 (by decide +kernel) rfl, TB_t 5 (by decide +kernel) rfl, ⟨by decide, by decide, by decide +kernel⟩, TB_t 89 (by decide +kernel) rfl, rfl⟩
theorem nlX1_17 : NL RX1 17 1 8 [.int 0, .int 0, .int 0, .int 0, .int 0, .int 0, .int 0, .null] := ⟨RX2, TX2, tyX2, rfl, TB_t 43 (by decide +kernel) rfl, TB_t 44 (by decide +kernel) rfl, TB_t 4 (by decide +kernel) rfl, inX2, tyX2_ok, by decide⟩
theorem nlX1_9 : NL RX1 9 5 11 [.int 0, .int 0, .int 0, .int 0, .int 0, .int 0, .int 0, .int 0, .int 0, .int 0, .int 0] := ⟨RX6, TX6, tyX6, rfl, TB_t 41 (by decide +kernel) rfl, TB_t 87 (by decide +kernel) rfl, TB_t 5 (by decide +kernel) rfl, inX6, tyX6_ok, by decide⟩
theorem w_ac0 : Cond.arrayClass .int ∈ TB := TB_t 85 (by decide +kernel) rfl
theorem w_oc : Cond.code objectInit ⟨#[0xb1]⟩ 1 none ∈ TB := TB_t 27 (by decide +kernel) rfl
theorem w_oi : Cond.instanceMethod objectInit ∈ TB := TB_t 26 (by decide +kernel) rfl
theorem wcX1_9 : Cond.classLink RX1 9 RX6 ∈ TB := TB_t 41 (by decide +kernel) rfl
theorem wlX1_3 : Cond.methodLink RX1 3 objectInit ∈ TB := TB_t 40 (by decide +kernel) rfl
theorem wlX2_3 : Cond.methodLink RX2 3 objectInit ∈ TB := TB_t 48 (by decide +kernel) rfl
theorem wlX6_3 : Cond.methodLink RX6 3 objectInit ∈ TB := TB_t 91 (by decide +kernel) rfl
