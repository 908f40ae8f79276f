/-! the classes whose objects the heap holds, their fields, by program out of the tables of the Statement -/
def zr0 : String := "TableMachine"
def zf0 : u_T := fun k => match k with
  | 0 => ("TableMachine", "machine", "LTableMachine$Machine;", true)
  | 1 => ("TableMachine", "store", "LTableMachine$Store;", true)
  | 2 => ("TableMachine", "program", "LTableMachine$Program;", true)
  | 3 => ("TableMachine", "results", "LTableMachine$Results;", true)
  | 4 => ("TableMachine", "coming", "LTableMachine$Values;", true)
  | _ => ("TableMachine", "question", "LTableMachine$Question;", true)
def zt0 : Nat → FieldType := fun k => match k with
  | 0 => .object "TableMachine$Machine"
  | 1 => .object "TableMachine$Store"
  | 2 => .object "TableMachine$Program"
  | 3 => .object "TableMachine$Results"
  | 4 => .object "TableMachine$Values"
  | _ => .object "TableMachine$Question"
theorem zn0 : ∀ a, a < 6 → ∀ b, b < 6 → a ≠ b → (zf0 a).2.1 ≠ (zf0 b).2.1 := by decide +kernel
theorem zk0 : ∀ k, k < 6 → parseFieldDescriptor (zf0 k).2.2.1 = some (zt0 k) := by decide +kernel
def zr1 : String := "TableMachine$Machine"
def zf1 : u_T := fun k => match k with
  | 0 => ("TableMachine$Machine", "store", "LTableMachine$Store;", true)
  | 1 => ("TableMachine$Machine", "program", "LTableMachine$Program;", true)
  | 2 => ("TableMachine$Machine", "results", "LTableMachine$Results;", true)
  | 3 => ("TableMachine$Machine", "registers", "LTableMachine$Values;", true)
  | 4 => ("TableMachine$Machine", "cursors", "[LTableMachine$Cursor;", true)
  | _ => ("TableMachine$Machine", "outcome", "I", false)
def zt1 : Nat → FieldType := fun k => match k with
  | 0 => .object "TableMachine$Store"
  | 1 => .object "TableMachine$Program"
  | 2 => .object "TableMachine$Results"
  | 3 => .object "TableMachine$Values"
  | 4 => .array (.object "TableMachine$Cursor")
  | _ => .int
theorem zn1 : ∀ a, a < 6 → ∀ b, b < 6 → a ≠ b → (zf1 a).2.1 ≠ (zf1 b).2.1 := by decide +kernel
theorem zk1 : ∀ k, k < 6 → parseFieldDescriptor (zf1 k).2.2.1 = some (zt1 k) := by decide +kernel
def zr2 : String := "TableMachine$Store"
def zf2 : u_T := fun k => match k with
  | 0 => ("TableMachine$Store", "tables", "[LTableMachine$Table;", true)
  | 1 => ("TableMachine$Store", "tableCount", "I", false)
  | 2 => ("TableMachine$Store", "cells", "LTableMachine$Values;", true)
  | 3 => ("TableMachine$Store", "keys", "[J", true)
  | 4 => ("TableMachine$Store", "spare", "[I", true)
  | _ => ("TableMachine$Store", "spareCount", "I", false)
def zt2 : Nat → FieldType := fun k => match k with
  | 0 => .array (.object "TableMachine$Table")
  | 1 => .int
  | 2 => .object "TableMachine$Values"
  | 3 => .array .long
  | 4 => .array .int
  | _ => .int
theorem zn2 : ∀ a, a < 6 → ∀ b, b < 6 → a ≠ b → (zf2 a).2.1 ≠ (zf2 b).2.1 := by decide +kernel
theorem zk2 : ∀ k, k < 6 → parseFieldDescriptor (zf2 k).2.2.1 = some (zt2 k) := by decide +kernel
def zr3 : String := "TableMachine$Table"
def zf3 : u_T := fun k => match k with
  | 0 => ("TableMachine$Table", "columns", "I", false)
  | 1 => ("TableMachine$Table", "size", "I", false)
  | _ => ("TableMachine$Table", "slots", "[I", true)
def zt3 : Nat → FieldType := fun k => match k with
  | 0 => .int
  | 1 => .int
  | _ => .array .int
theorem zn3 : ∀ a, a < 3 → ∀ b, b < 3 → a ≠ b → (zf3 a).2.1 ≠ (zf3 b).2.1 := by decide +kernel
theorem zk3 : ∀ k, k < 3 → parseFieldDescriptor (zf3 k).2.2.1 = some (zt3 k) := by decide +kernel
def zr4 : String := "TableMachine$Values"
def zf4 : u_T := fun k => match k with
  | 0 => ("TableMachine$Values", "numbers", "[J", true)
  | _ => ("TableMachine$Values", "known", "[Z", true)
def zt4 : Nat → FieldType := fun k => match k with
  | 0 => .array .long
  | _ => .array .boolean
theorem zn4 : ∀ a, a < 2 → ∀ b, b < 2 → a ≠ b → (zf4 a).2.1 ≠ (zf4 b).2.1 := by decide +kernel
theorem zk4 : ∀ k, k < 2 → parseFieldDescriptor (zf4 k).2.2.1 = some (zt4 k) := by decide +kernel
def zr5 : String := "TableMachine$Cursor"
def zf5 : u_T := fun k => match k with
  | 0 => ("TableMachine$Cursor", "table", "I", false)
  | 1 => ("TableMachine$Cursor", "hasKey", "Z", false)
  | _ => ("TableMachine$Cursor", "key", "J", false)
def zt5 : Nat → FieldType := fun k => match k with
  | 0 => .int
  | 1 => .boolean
  | _ => .long
theorem zn5 : ∀ a, a < 3 → ∀ b, b < 3 → a ≠ b → (zf5 a).2.1 ≠ (zf5 b).2.1 := by decide +kernel
theorem zk5 : ∀ k, k < 3 → parseFieldDescriptor (zf5 k).2.2.1 = some (zt5 k) := by decide +kernel
def zr6 : String := "TableMachine$Program"
def zf6 : u_T := fun k => match k with
  | 0 => ("TableMachine$Program", "size", "I", false)
  | _ => ("TableMachine$Program", "words", "[I", true)
def zt6 : Nat → FieldType := fun k => match k with
  | 0 => .int
  | _ => .array .int
theorem zn6 : ∀ a, a < 2 → ∀ b, b < 2 → a ≠ b → (zf6 a).2.1 ≠ (zf6 b).2.1 := by decide +kernel
theorem zk6 : ∀ k, k < 2 → parseFieldDescriptor (zf6 k).2.2.1 = some (zt6 k) := by decide +kernel
def zr7 : String := "TableMachine$Results"
def zf7 : u_T := fun k => match k with
  | 0 => ("TableMachine$Results", "size", "I", false)
  | 1 => ("TableMachine$Results", "widths", "[I", true)
  | _ => ("TableMachine$Results", "cells", "LTableMachine$Values;", true)
def zt7 : Nat → FieldType := fun k => match k with
  | 0 => .int
  | 1 => .array .int
  | _ => .object "TableMachine$Values"
theorem zn7 : ∀ a, a < 3 → ∀ b, b < 3 → a ≠ b → (zf7 a).2.1 ≠ (zf7 b).2.1 := by decide +kernel
theorem zk7 : ∀ k, k < 3 → parseFieldDescriptor (zf7 k).2.2.1 = some (zt7 k) := by decide +kernel
def zr8 : String := "TableMachine$Question"
def zf8 : u_T := fun k => match k with
  | 0 => ("TableMachine$Question", "tables", "[I", true)
  | 1 => ("TableMachine$Question", "outputs", "I", false)
  | 2 => ("TableMachine$Question", "conditions", "I", false)
  | 3 => ("TableMachine$Question", "cursors", "I", false)
  | 4 => ("TableMachine$Question", "outputCursors", "[I", true)
  | 5 => ("TableMachine$Question", "outputColumns", "[I", true)
  | 6 => ("TableMachine$Question", "conditionCursors", "[I", true)
  | 7 => ("TableMachine$Question", "conditionColumns", "[I", true)
  | 8 => ("TableMachine$Question", "comparisons", "[I", true)
  | 9 => ("TableMachine$Question", "numbers", "[I", true)
  | 10 => ("TableMachine$Question", "joined", "Z", false)
  | 11 => ("TableMachine$Question", "firstJoined", "I", false)
  | _ => ("TableMachine$Question", "secondJoined", "I", false)
def zt8 : Nat → FieldType := fun k => match k with
  | 0 => .array .int
  | 1 => .int
  | 2 => .int
  | 3 => .int
  | 4 => .array .int
  | 5 => .array .int
  | 6 => .array .int
  | 7 => .array .int
  | 8 => .array .int
  | 9 => .array .int
  | 10 => .boolean
  | 11 => .int
  | _ => .int
theorem zn8 : ∀ a, a < 13 → ∀ b, b < 13 → a ≠ b → (zf8 a).2.1 ≠ (zf8 b).2.1 := by decide +kernel
theorem zk8 : ∀ k, k < 13 → parseFieldDescriptor (zf8 k).2.2.1 = some (zt8 k) := by decide +kernel
def zr9 : String := "TableMachineModel"
def zf9 : u_T := fun k => match k with
  | 0 => ("TableMachineModel", "thrown", "I", false)
  | 1 => ("TableMachineModel", "tables", "I", false)
  | 2 => ("TableMachineModel", "columns", "[I", true)
  | 3 => ("TableMachineModel", "rows", "I", false)
  | 4 => ("TableMachineModel", "owner", "[I", true)
  | 5 => ("TableMachineModel", "keys", "[J", true)
  | 6 => ("TableMachineModel", "values", "[J", true)
  | 7 => ("TableMachineModel", "has", "[Z", true)
  | 8 => ("TableMachineModel", "coming", "[J", true)
  | 9 => ("TableMachineModel", "comes", "[Z", true)
  | 10 => ("TableMachineModel", "size", "I", false)
  | 11 => ("TableMachineModel", "code", "[I", true)
  | 12 => ("TableMachineModel", "registers", "[J", true)
  | 13 => ("TableMachineModel", "full", "[Z", true)
  | 14 => ("TableMachineModel", "open", "[I", true)
  | 15 => ("TableMachineModel", "keyed", "[Z", true)
  | 16 => ("TableMachineModel", "at", "[J", true)
  | 17 => ("TableMachineModel", "outcome", "I", false)
  | 18 => ("TableMachineModel", "place", "I", false)
  | 19 => ("TableMachineModel", "results", "I", false)
  | 20 => ("TableMachineModel", "wide", "[I", true)
  | 21 => ("TableMachineModel", "told", "[J", true)
  | 22 => ("TableMachineModel", "given", "[Z", true)
  | 23 => ("TableMachineModel", "first", "I", false)
  | 24 => ("TableMachineModel", "second", "I", false)
  | 25 => ("TableMachineModel", "outputs", "I", false)
  | 26 => ("TableMachineModel", "output", "[I", true)
  | 27 => ("TableMachineModel", "conditions", "I", false)
  | 28 => ("TableMachineModel", "condition", "[I", true)
  | 29 => ("TableMachineModel", "joins", "Z", false)
  | 30 => ("TableMachineModel", "joinFirst", "I", false)
  | _ => ("TableMachineModel", "joinSecond", "I", false)
def zt9 : Nat → FieldType := fun k => match k with
  | 0 => .int
  | 1 => .int
  | 2 => .array .int
  | 3 => .int
  | 4 => .array .int
  | 5 => .array .long
  | 6 => .array .long
  | 7 => .array .boolean
  | 8 => .array .long
  | 9 => .array .boolean
  | 10 => .int
  | 11 => .array .int
  | 12 => .array .long
  | 13 => .array .boolean
  | 14 => .array .int
  | 15 => .array .boolean
  | 16 => .array .long
  | 17 => .int
  | 18 => .int
  | 19 => .int
  | 20 => .array .int
  | 21 => .array .long
  | 22 => .array .boolean
  | 23 => .int
  | 24 => .int
  | 25 => .int
  | 26 => .array .int
  | 27 => .int
  | 28 => .array .int
  | 29 => .boolean
  | 30 => .int
  | _ => .int
theorem zn9 : ∀ a, a < 32 → ∀ b, b < 32 → a ≠ b → (zf9 a).2.1 ≠ (zf9 b).2.1 := by decide +kernel
theorem zk9 : ∀ k, k < 32 → parseFieldDescriptor (zf9 k).2.2.1 = some (zt9 k) := by decide +kernel
abbrev zCl : List vw_C := [(zr0, zf0, 6), (zr1, zf1, 6), (zr2, zf2, 6), (zr3, zf3, 3), (zr4, zf4, 2), (zr5, zf5, 3), (zr6, zf6, 2), (zr7, zf7, 3), (zr8, zf8, 13), (zr9, zf9, 32)]
def zTab : String := "TableMachine$Table"
def zCur : String := "TableMachine$Cursor"
