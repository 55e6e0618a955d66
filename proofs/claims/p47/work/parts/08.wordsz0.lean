theorem tw_1338 : Cond.code yL_sum method_18_code 7 (some FieldType.long) ∈ TBL := TBL_mem 1338 (by decide +kernel) (by decide +kernel)
