theorem zz98 : True := trivial
