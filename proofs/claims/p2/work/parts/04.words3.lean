set_option maxRecDepth 20000 in
theorem sl__ChipMap_Reader____ChipMap_Reader___number____III_I_____ChipMap_Reader___number____III_I__ : Cond.selects "ChipMap$Reader" ⟨"ChipMap$Reader", "number", "(III)I"⟩ ⟨"ChipMap$Reader", "number", "(III)I"⟩ ∈ GT := gt_in (List.mem_append_left _ (List.mem_map.mpr ⟨(⟨"ChipMap$Reader", "number", "(III)I"⟩, 4), by decide +kernel, rfl⟩)) rfl
set_option maxRecDepth 20000 in
theorem sl__ChipMap_Reader____ChipMap_Reader___readBank____I_Z_____ChipMap_Reader___readBank____I_Z__ : Cond.selects "ChipMap$Reader" ⟨"ChipMap$Reader", "readBank", "(I)Z"⟩ ⟨"ChipMap$Reader", "readBank", "(I)Z"⟩ ∈ GT := gt_in (List.mem_append_left _ (List.mem_map.mpr ⟨(⟨"ChipMap$Reader", "readBank", "(I)Z"⟩, 4), by decide +kernel, rfl⟩)) rfl
set_option maxRecDepth 20000 in
theorem sl__ChipMap_Reader____ChipMap_Reader___take____C_Z_____ChipMap_Reader___take____C_Z__ : Cond.selects "ChipMap$Reader" ⟨"ChipMap$Reader", "take", "(C)Z"⟩ ⟨"ChipMap$Reader", "take", "(C)Z"⟩ ∈ GT := gt_in (List.mem_append_left _ (List.mem_map.mpr ⟨(⟨"ChipMap$Reader", "take", "(C)Z"⟩, 4), by decide +kernel, rfl⟩)) rfl
set_option maxRecDepth 20000 in
theorem sl__ChipMapModel____ChipMapModel___begin_____V_____ChipMapModel___begin_____V__ : Cond.selects "ChipMapModel" ⟨"ChipMapModel", "begin", "()V"⟩ ⟨"ChipMapModel", "begin", "()V"⟩ ∈ GT := gt_in (List.mem_append_left _ (List.mem_map.mpr ⟨(⟨"ChipMapModel", "begin", "()V"⟩, 76), by decide +kernel, rfl⟩)) rfl
set_option maxRecDepth 20000 in
theorem sl__ChipMapModel____ChipMapModel___breaks____III_Z_____ChipMapModel___breaks____III_Z__ : Cond.selects "ChipMapModel" ⟨"ChipMapModel", "breaks", "(III)Z"⟩ ⟨"ChipMapModel", "breaks", "(III)Z"⟩ ∈ GT := gt_in (List.mem_append_left _ (List.mem_map.mpr ⟨(⟨"ChipMapModel", "breaks", "(III)Z"⟩, 76), by decide +kernel, rfl⟩)) rfl
set_option maxRecDepth 20000 in
theorem sl__ChipMapModel____ChipMapModel___copyDevice____II_V_____ChipMapModel___copyDevice____II_V__ : Cond.selects "ChipMapModel" ⟨"ChipMapModel", "copyDevice", "(II)V"⟩ ⟨"ChipMapModel", "copyDevice", "(II)V"⟩ ∈ GT := gt_in (List.mem_append_left _ (List.mem_map.mpr ⟨(⟨"ChipMapModel", "copyDevice", "(II)V"⟩, 76), by decide +kernel, rfl⟩)) rfl
set_option maxRecDepth 20000 in
theorem sl__ChipMapModel____ChipMapModel___doFetch____I_V_____ChipMapModel___doFetch____I_V__ : Cond.selects "ChipMapModel" ⟨"ChipMapModel", "doFetch", "(I)V"⟩ ⟨"ChipMapModel", "doFetch", "(I)V"⟩ ∈ GT := gt_in (List.mem_append_left _ (List.mem_map.mpr ⟨(⟨"ChipMapModel", "doFetch", "(I)V"⟩, 76), by decide +kernel, rfl⟩)) rfl
set_option maxRecDepth 20000 in
theorem sl__ChipMapModel____ChipMapModel___doPut____II_V_____ChipMapModel___doPut____II_V__ : Cond.selects "ChipMapModel" ⟨"ChipMapModel", "doPut", "(II)V"⟩ ⟨"ChipMapModel", "doPut", "(II)V"⟩ ∈ GT := gt_in (List.mem_append_left _ (List.mem_map.mpr ⟨(⟨"ChipMapModel", "doPut", "(II)V"⟩, 76), by decide +kernel, rfl⟩)) rfl
set_option maxRecDepth 20000 in
theorem sl__ChipMapModel____ChipMapModel___end_____I_____ChipMapModel___end_____I__ : Cond.selects "ChipMapModel" ⟨"ChipMapModel", "end", "()I"⟩ ⟨"ChipMapModel", "end", "()I"⟩ ∈ GT := gt_in (List.mem_append_left _ (List.mem_map.mpr ⟨(⟨"ChipMapModel", "end", "()I"⟩, 76), by decide +kernel, rfl⟩)) rfl
set_option maxRecDepth 20000 in
theorem sl__ChipMapModel____ChipMapModel___fieldsRight_____Z_____ChipMapModel___fieldsRight_____Z__ : Cond.selects "ChipMapModel" ⟨"ChipMapModel", "fieldsRight", "()Z"⟩ ⟨"ChipMapModel", "fieldsRight", "()Z"⟩ ∈ GT := gt_in (List.mem_append_left _ (List.mem_map.mpr ⟨(⟨"ChipMapModel", "fieldsRight", "()Z"⟩, 76), by decide +kernel, rfl⟩)) rfl
set_option maxRecDepth 20000 in
theorem sl__ChipMapModel____ChipMapModel___firstBroken____II_I_____ChipMapModel___firstBroken____II_I__ : Cond.selects "ChipMapModel" ⟨"ChipMapModel", "firstBroken", "(II)I"⟩ ⟨"ChipMapModel", "firstBroken", "(II)I"⟩ ∈ GT := gt_in (List.mem_append_left _ (List.mem_map.mpr ⟨(⟨"ChipMapModel", "firstBroken", "(II)I"⟩, 76), by decide +kernel, rfl⟩)) rfl
set_option maxRecDepth 20000 in
theorem sl__ChipMapModel____ChipMapModel___fits____II_Z_____ChipMapModel___fits____II_Z__ : Cond.selects "ChipMapModel" ⟨"ChipMapModel", "fits", "(II)Z"⟩ ⟨"ChipMapModel", "fits", "(II)Z"⟩ ∈ GT := gt_in (List.mem_append_left _ (List.mem_map.mpr ⟨(⟨"ChipMapModel", "fits", "(II)Z"⟩, 76), by decide +kernel, rfl⟩)) rfl
set_option maxRecDepth 20000 in
theorem sl__ChipMapModel____ChipMapModel___flushRegister____I_V_____ChipMapModel___flushRegister____I_V__ : Cond.selects "ChipMapModel" ⟨"ChipMapModel", "flushRegister", "(I)V"⟩ ⟨"ChipMapModel", "flushRegister", "(I)V"⟩ ∈ GT := gt_in (List.mem_append_left _ (List.mem_map.mpr ⟨(⟨"ChipMapModel", "flushRegister", "(I)V"⟩, 76), by decide +kernel, rfl⟩)) rfl
set_option maxRecDepth 20000 in
theorem sl__ChipMapModel____ChipMapModel___goOn____I_V_____ChipMapModel___goOn____I_V__ : Cond.selects "ChipMapModel" ⟨"ChipMapModel", "goOn", "(I)V"⟩ ⟨"ChipMapModel", "goOn", "(I)V"⟩ ∈ GT := gt_in (List.mem_append_left _ (List.mem_map.mpr ⟨(⟨"ChipMapModel", "goOn", "(I)V"⟩, 76), by decide +kernel, rfl⟩)) rfl
set_option maxRecDepth 20000 in
theorem sl__ChipMapModel____ChipMapModel___here_____I_____ChipMapModel___here_____I__ : Cond.selects "ChipMapModel" ⟨"ChipMapModel", "here", "()I"⟩ ⟨"ChipMapModel", "here", "()I"⟩ ∈ GT := gt_in (List.mem_append_left _ (List.mem_map.mpr ⟨(⟨"ChipMapModel", "here", "()I"⟩, 76), by decide +kernel, rfl⟩)) rfl
set_option maxRecDepth 20000 in
theorem sl__ChipMapModel____ChipMapModel___isFetch____I_Z_____ChipMapModel___isFetch____I_Z__ : Cond.selects "ChipMapModel" ⟨"ChipMapModel", "isFetch", "(I)Z"⟩ ⟨"ChipMapModel", "isFetch", "(I)Z"⟩ ∈ GT := gt_in (List.mem_append_left _ (List.mem_map.mpr ⟨(⟨"ChipMapModel", "isFetch", "(I)Z"⟩, 76), by decide +kernel, rfl⟩)) rfl
set_option maxRecDepth 20000 in
theorem sl__ChipMapModel____ChipMapModel___isField____I_Z_____ChipMapModel___isField____I_Z__ : Cond.selects "ChipMapModel" ⟨"ChipMapModel", "isField", "(I)Z"⟩ ⟨"ChipMapModel", "isField", "(I)Z"⟩ ∈ GT := gt_in (List.mem_append_left _ (List.mem_map.mpr ⟨(⟨"ChipMapModel", "isField", "(I)Z"⟩, 76), by decide +kernel, rfl⟩)) rfl
set_option maxRecDepth 20000 in
theorem sl__ChipMapModel____ChipMapModel___isFit____II_Z_____ChipMapModel___isFit____II_Z__ : Cond.selects "ChipMapModel" ⟨"ChipMapModel", "isFit", "(II)Z"⟩ ⟨"ChipMapModel", "isFit", "(II)Z"⟩ ∈ GT := gt_in (List.mem_append_left _ (List.mem_map.mpr ⟨(⟨"ChipMapModel", "isFit", "(II)Z"⟩, 76), by decide +kernel, rfl⟩)) rfl
set_option maxRecDepth 20000 in
theorem sl__ChipMapModel____ChipMapModel___isIn____II_Z_____ChipMapModel___isIn____II_Z__ : Cond.selects "ChipMapModel" ⟨"ChipMapModel", "isIn", "(II)Z"⟩ ⟨"ChipMapModel", "isIn", "(II)Z"⟩ ∈ GT := gt_in (List.mem_append_left _ (List.mem_map.mpr ⟨(⟨"ChipMapModel", "isIn", "(II)Z"⟩, 76), by decide +kernel, rfl⟩)) rfl
set_option maxRecDepth 20000 in
theorem sl__ChipMapModel____ChipMapModel___isLooked____I_Z_____ChipMapModel___isLooked____I_Z__ : Cond.selects "ChipMapModel" ⟨"ChipMapModel", "isLooked", "(I)Z"⟩ ⟨"ChipMapModel", "isLooked", "(I)Z"⟩ ∈ GT := gt_in (List.mem_append_left _ (List.mem_map.mpr ⟨(⟨"ChipMapModel", "isLooked", "(I)Z"⟩, 76), by decide +kernel, rfl⟩)) rfl
set_option maxRecDepth 20000 in
theorem sl__ChipMapModel____ChipMapModel___isPut____II_Z_____ChipMapModel___isPut____II_Z__ : Cond.selects "ChipMapModel" ⟨"ChipMapModel", "isPut", "(II)Z"⟩ ⟨"ChipMapModel", "isPut", "(II)Z"⟩ ∈ GT := gt_in (List.mem_append_left _ (List.mem_map.mpr ⟨(⟨"ChipMapModel", "isPut", "(II)Z"⟩, 76), by decide +kernel, rfl⟩)) rfl
set_option maxRecDepth 20000 in
theorem sl__ChipMapModel____ChipMapModel___isSituation____II_Z_____ChipMapModel___isSituation____II_Z__ : Cond.selects "ChipMapModel" ⟨"ChipMapModel", "isSituation", "(II)Z"⟩ ⟨"ChipMapModel", "isSituation", "(II)Z"⟩ ∈ GT := gt_in (List.mem_append_left _ (List.mem_map.mpr ⟨(⟨"ChipMapModel", "isSituation", "(II)Z"⟩, 76), by decide +kernel, rfl⟩)) rfl
set_option maxRecDepth 20000 in
theorem sl__ChipMapModel____ChipMapModel___isStored____I_Z_____ChipMapModel___isStored____I_Z__ : Cond.selects "ChipMapModel" ⟨"ChipMapModel", "isStored", "(I)Z"⟩ ⟨"ChipMapModel", "isStored", "(I)Z"⟩ ∈ GT := gt_in (List.mem_append_left _ (List.mem_map.mpr ⟨(⟨"ChipMapModel", "isStored", "(I)Z"⟩, 76), by decide +kernel, rfl⟩)) rfl
set_option maxRecDepth 20000 in
theorem sl__ChipMapModel____ChipMapModel___isThere____I_Z_____ChipMapModel___isThere____I_Z__ : Cond.selects "ChipMapModel" ⟨"ChipMapModel", "isThere", "(I)Z"⟩ ⟨"ChipMapModel", "isThere", "(I)Z"⟩ ∈ GT := gt_in (List.mem_append_left _ (List.mem_map.mpr ⟨(⟨"ChipMapModel", "isThere", "(I)Z"⟩, 76), by decide +kernel, rfl⟩)) rfl
set_option maxRecDepth 20000 in
theorem sl__ChipMapModel____ChipMapModel___isWritten____III_Z_____ChipMapModel___isWritten____III_Z__ : Cond.selects "ChipMapModel" ⟨"ChipMapModel", "isWritten", "(III)Z"⟩ ⟨"ChipMapModel", "isWritten", "(III)Z"⟩ ∈ GT := gt_in (List.mem_append_left _ (List.mem_map.mpr ⟨(⟨"ChipMapModel", "isWritten", "(III)Z"⟩, 76), by decide +kernel, rfl⟩)) rfl
set_option maxRecDepth 20000 in
theorem sl__ChipMapModel____ChipMapModel___meet____I_V_____ChipMapModel___meet____I_V__ : Cond.selects "ChipMapModel" ⟨"ChipMapModel", "meet", "(I)V"⟩ ⟨"ChipMapModel", "meet", "(I)V"⟩ ∈ GT := gt_in (List.mem_append_left _ (List.mem_map.mpr ⟨(⟨"ChipMapModel", "meet", "(I)V"⟩, 76), by decide +kernel, rfl⟩)) rfl
set_option maxRecDepth 20000 in
theorem sl__ChipMapModel____ChipMapModel___memoryWord_____I_____ChipMapModel___memoryWord_____I__ : Cond.selects "ChipMapModel" ⟨"ChipMapModel", "memoryWord", "()I"⟩ ⟨"ChipMapModel", "memoryWord", "()I"⟩ ∈ GT := gt_in (List.mem_append_left _ (List.mem_map.mpr ⟨(⟨"ChipMapModel", "memoryWord", "()I"⟩, 76), by decide +kernel, rfl⟩)) rfl
set_option maxRecDepth 20000 in
theorem sl__ChipMapModel____ChipMapModel___named____II_I_____ChipMapModel___named____II_I__ : Cond.selects "ChipMapModel" ⟨"ChipMapModel", "named", "(II)I"⟩ ⟨"ChipMapModel", "named", "(II)I"⟩ ∈ GT := gt_in (List.mem_append_left _ (List.mem_map.mpr ⟨(⟨"ChipMapModel", "named", "(II)I"⟩, 76), by decide +kernel, rfl⟩)) rfl
set_option maxRecDepth 20000 in
theorem sl__ChipMapModel____ChipMapModel___operate____II_V_____ChipMapModel___operate____II_V__ : Cond.selects "ChipMapModel" ⟨"ChipMapModel", "operate", "(II)V"⟩ ⟨"ChipMapModel", "operate", "(II)V"⟩ ∈ GT := gt_in (List.mem_append_left _ (List.mem_map.mpr ⟨(⟨"ChipMapModel", "operate", "(II)V"⟩, 76), by decide +kernel, rfl⟩)) rfl
set_option maxRecDepth 20000 in
theorem sl__ChipMapModel____ChipMapModel___part____II_I_____ChipMapModel___part____II_I__ : Cond.selects "ChipMapModel" ⟨"ChipMapModel", "part", "(II)I"⟩ ⟨"ChipMapModel", "part", "(II)I"⟩ ∈ GT := gt_in (List.mem_append_left _ (List.mem_map.mpr ⟨(⟨"ChipMapModel", "part", "(II)I"⟩, 76), by decide +kernel, rfl⟩)) rfl
set_option maxRecDepth 20000 in
theorem sl__ChipMapModel____ChipMapModel___raise____I_I_____ChipMapModel___raise____I_I__ : Cond.selects "ChipMapModel" ⟨"ChipMapModel", "raise", "(I)I"⟩ ⟨"ChipMapModel", "raise", "(I)I"⟩ ∈ GT := gt_in (List.mem_append_left _ (List.mem_map.mpr ⟨(⟨"ChipMapModel", "raise", "(I)I"⟩, 76), by decide +kernel, rfl⟩)) rfl
set_option maxRecDepth 20000 in
theorem sl__ChipMapModel____ChipMapModel___reach____I_V_____ChipMapModel___reach____I_V__ : Cond.selects "ChipMapModel" ⟨"ChipMapModel", "reach", "(I)V"⟩ ⟨"ChipMapModel", "reach", "(I)V"⟩ ∈ GT := gt_in (List.mem_append_left _ (List.mem_map.mpr ⟨(⟨"ChipMapModel", "reach", "(I)V"⟩, 76), by decide +kernel, rfl⟩)) rfl
set_option maxRecDepth 20000 in
theorem sl__ChipMapModel____ChipMapModel___read____I_I_____ChipMapModel___read____I_I__ : Cond.selects "ChipMapModel" ⟨"ChipMapModel", "read", "(I)I"⟩ ⟨"ChipMapModel", "read", "(I)I"⟩ ∈ GT := gt_in (List.mem_append_left _ (List.mem_map.mpr ⟨(⟨"ChipMapModel", "read", "(I)I"⟩, 76), by decide +kernel, rfl⟩)) rfl
set_option maxRecDepth 20000 in
theorem sl__ChipMapModel____ChipMapModel___readAll_____Z_____ChipMapModel___readAll_____Z__ : Cond.selects "ChipMapModel" ⟨"ChipMapModel", "readAll", "()Z"⟩ ⟨"ChipMapModel", "readAll", "()Z"⟩ ∈ GT := gt_in (List.mem_append_left _ (List.mem_map.mpr ⟨(⟨"ChipMapModel", "readAll", "()Z"⟩, 76), by decide +kernel, rfl⟩)) rfl
set_option maxRecDepth 20000 in
theorem sl__ChipMapModel____ChipMapModel___readField_____Z_____ChipMapModel___readField_____Z__ : Cond.selects "ChipMapModel" ⟨"ChipMapModel", "readField", "()Z"⟩ ⟨"ChipMapModel", "readField", "()Z"⟩ ∈ GT := gt_in (List.mem_append_left _ (List.mem_map.mpr ⟨(⟨"ChipMapModel", "readField", "()Z"⟩, 76), by decide +kernel, rfl⟩)) rfl
set_option maxRecDepth 20000 in
theorem sl__ChipMapModel____ChipMapModel___readRegister_____Z_____ChipMapModel___readRegister_____Z__ : Cond.selects "ChipMapModel" ⟨"ChipMapModel", "readRegister", "()Z"⟩ ⟨"ChipMapModel", "readRegister", "()Z"⟩ ∈ GT := gt_in (List.mem_append_left _ (List.mem_map.mpr ⟨(⟨"ChipMapModel", "readRegister", "()Z"⟩, 76), by decide +kernel, rfl⟩)) rfl
set_option maxRecDepth 20000 in
theorem sl__ChipMapModel____ChipMapModel___readRule_____Z_____ChipMapModel___readRule_____Z__ : Cond.selects "ChipMapModel" ⟨"ChipMapModel", "readRule", "()Z"⟩ ⟨"ChipMapModel", "readRule", "()Z"⟩ ∈ GT := gt_in (List.mem_append_left _ (List.mem_map.mpr ⟨(⟨"ChipMapModel", "readRule", "()Z"⟩, 76), by decide +kernel, rfl⟩)) rfl
set_option maxRecDepth 20000 in
theorem sl__ChipMapModel____ChipMapModel___registerAt____I_I_____ChipMapModel___registerAt____I_I__ : Cond.selects "ChipMapModel" ⟨"ChipMapModel", "registerAt", "(I)I"⟩ ⟨"ChipMapModel", "registerAt", "(I)I"⟩ ∈ GT := gt_in (List.mem_append_left _ (List.mem_map.mpr ⟨(⟨"ChipMapModel", "registerAt", "(I)I"⟩, 76), by decide +kernel, rfl⟩)) rfl
set_option maxRecDepth 20000 in
theorem sl__ChipMapModel____ChipMapModel___registersRight_____Z_____ChipMapModel___registersRight_____Z__ : Cond.selects "ChipMapModel" ⟨"ChipMapModel", "registersRight", "()Z"⟩ ⟨"ChipMapModel", "registersRight", "()Z"⟩ ∈ GT := gt_in (List.mem_append_left _ (List.mem_map.mpr ⟨(⟨"ChipMapModel", "registersRight", "()Z"⟩, 76), by decide +kernel, rfl⟩)) rfl
set_option maxRecDepth 20000 in
theorem sl__ChipMapModel____ChipMapModel___resetAll_____V_____ChipMapModel___resetAll_____V__ : Cond.selects "ChipMapModel" ⟨"ChipMapModel", "resetAll", "()V"⟩ ⟨"ChipMapModel", "resetAll", "()V"⟩ ∈ GT := gt_in (List.mem_append_left _ (List.mem_map.mpr ⟨(⟨"ChipMapModel", "resetAll", "()V"⟩, 76), by decide +kernel, rfl⟩)) rfl
set_option maxRecDepth 20000 in
theorem sl__ChipMapModel____ChipMapModel___resetDevice_____V_____ChipMapModel___resetDevice_____V__ : Cond.selects "ChipMapModel" ⟨"ChipMapModel", "resetDevice", "()V"⟩ ⟨"ChipMapModel", "resetDevice", "()V"⟩ ∈ GT := gt_in (List.mem_append_left _ (List.mem_map.mpr ⟨(⟨"ChipMapModel", "resetDevice", "()V"⟩, 76), by decide +kernel, rfl⟩)) rfl
set_option maxRecDepth 20000 in
theorem sl__ChipMapModel____ChipMapModel___rulesRight_____Z_____ChipMapModel___rulesRight_____Z__ : Cond.selects "ChipMapModel" ⟨"ChipMapModel", "rulesRight", "()Z"⟩ ⟨"ChipMapModel", "rulesRight", "()Z"⟩ ∈ GT := gt_in (List.mem_append_left _ (List.mem_map.mpr ⟨(⟨"ChipMapModel", "rulesRight", "()Z"⟩, 76), by decide +kernel, rfl⟩)) rfl
set_option maxRecDepth 20000 in
theorem sl__ChipMapModel____ChipMapModel___stand____I_V_____ChipMapModel___stand____I_V__ : Cond.selects "ChipMapModel" ⟨"ChipMapModel", "stand", "(I)V"⟩ ⟨"ChipMapModel", "stand", "(I)V"⟩ ∈ GT := gt_in (List.mem_append_left _ (List.mem_map.mpr ⟨(⟨"ChipMapModel", "stand", "(I)V"⟩, 76), by decide +kernel, rfl⟩)) rfl
set_option maxRecDepth 20000 in
theorem sl__ChipMapModel____ChipMapModel___still____I_I_____ChipMapModel___still____I_I__ : Cond.selects "ChipMapModel" ⟨"ChipMapModel", "still", "(I)I"⟩ ⟨"ChipMapModel", "still", "(I)I"⟩ ∈ GT := gt_in (List.mem_append_left _ (List.mem_map.mpr ⟨(⟨"ChipMapModel", "still", "(I)I"⟩, 76), by decide +kernel, rfl⟩)) rfl
set_option maxRecDepth 20000 in
theorem sl__ChipMapModel____ChipMapModel___take____I_Z_____ChipMapModel___take____I_Z__ : Cond.selects "ChipMapModel" ⟨"ChipMapModel", "take", "(I)Z"⟩ ⟨"ChipMapModel", "take", "(I)Z"⟩ ∈ GT := gt_in (List.mem_append_left _ (List.mem_map.mpr ⟨(⟨"ChipMapModel", "take", "(I)Z"⟩, 76), by decide +kernel, rfl⟩)) rfl
set_option maxRecDepth 20000 in
theorem sl__ChipMapModel____ChipMapModel___takeDecimal_____Z_____ChipMapModel___takeDecimal_____Z__ : Cond.selects "ChipMapModel" ⟨"ChipMapModel", "takeDecimal", "()Z"⟩ ⟨"ChipMapModel", "takeDecimal", "()Z"⟩ ∈ GT := gt_in (List.mem_append_left _ (List.mem_map.mpr ⟨(⟨"ChipMapModel", "takeDecimal", "()Z"⟩, 76), by decide +kernel, rfl⟩)) rfl
set_option maxRecDepth 20000 in
theorem sl__ChipMapModel____ChipMapModel___takeHex____II_Z_____ChipMapModel___takeHex____II_Z__ : Cond.selects "ChipMapModel" ⟨"ChipMapModel", "takeHex", "(II)Z"⟩ ⟨"ChipMapModel", "takeHex", "(II)Z"⟩ ∈ GT := gt_in (List.mem_append_left _ (List.mem_map.mpr ⟨(⟨"ChipMapModel", "takeHex", "(II)Z"⟩, 76), by decide +kernel, rfl⟩)) rfl
set_option maxRecDepth 20000 in
theorem sl__ChipMapModel____ChipMapModel___takeName_____Z_____ChipMapModel___takeName_____Z__ : Cond.selects "ChipMapModel" ⟨"ChipMapModel", "takeName", "()Z"⟩ ⟨"ChipMapModel", "takeName", "()Z"⟩ ∈ GT := gt_in (List.mem_append_left _ (List.mem_map.mpr ⟨(⟨"ChipMapModel", "takeName", "()Z"⟩, 76), by decide +kernel, rfl⟩)) rfl
set_option maxRecDepth 20000 in
theorem sl__ChipMapModel____ChipMapModel___trace____ZII_V_____ChipMapModel___trace____ZII_V__ : Cond.selects "ChipMapModel" ⟨"ChipMapModel", "trace", "(ZII)V"⟩ ⟨"ChipMapModel", "trace", "(ZII)V"⟩ ∈ GT := gt_in (List.mem_append_left _ (List.mem_map.mpr ⟨(⟨"ChipMapModel", "trace", "(ZII)V"⟩, 76), by decide +kernel, rfl⟩)) rfl
set_option maxRecDepth 20000 in
theorem sl__ChipMapModel____ChipMapModel___with____III_I_____ChipMapModel___with____III_I__ : Cond.selects "ChipMapModel" ⟨"ChipMapModel", "with", "(III)I"⟩ ⟨"ChipMapModel", "with", "(III)I"⟩ ∈ GT := gt_in (List.mem_append_left _ (List.mem_map.mpr ⟨(⟨"ChipMapModel", "with", "(III)I"⟩, 76), by decide +kernel, rfl⟩)) rfl
set_option maxRecDepth 20000 in
theorem sl__ChipMapModel____ChipMapModel___write____II_V_____ChipMapModel___write____II_V__ : Cond.selects "ChipMapModel" ⟨"ChipMapModel", "write", "(II)V"⟩ ⟨"ChipMapModel", "write", "(II)V"⟩ ∈ GT := gt_in (List.mem_append_left _ (List.mem_map.mpr ⟨(⟨"ChipMapModel", "write", "(II)V"⟩, 76), by decide +kernel, rfl⟩)) rfl
set_option maxRecDepth 20000 in
theorem sl__ChipMapModel____ChipMapModel___wrong____II_Z_____ChipMapModel___wrong____II_Z__ : Cond.selects "ChipMapModel" ⟨"ChipMapModel", "wrong", "(II)Z"⟩ ⟨"ChipMapModel", "wrong", "(II)Z"⟩ ∈ GT := gt_in (List.mem_append_left _ (List.mem_map.mpr ⟨(⟨"ChipMapModel", "wrong", "(II)Z"⟩, 76), by decide +kernel, rfl⟩)) rfl
