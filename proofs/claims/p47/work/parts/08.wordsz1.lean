theorem tw_1359 : Cond.code yL_isSound method_19_code 10 (some FieldType.boolean) ∈ TBL := TBL_mem 1359 (by decide +kernel) (by decide +kernel)
